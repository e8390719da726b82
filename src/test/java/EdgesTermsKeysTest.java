/** Terms: STATIONS and LINKS, users and their homes, keys, MIX. */
public final class EdgesTermsKeysTest {
    private static final Check CHECK = new Check("EdgesTermsKeysTest");
    private static final int MIN = Edges.MIN;
    private static final int MAX = Edges.MAX;

    public static void main(String[] args) {
        stationsAre0To4();
        usersAre0To11();
        everyIntHasAHome();
        linksHaveTwoEnds();
        keysAreZeroAtFirst();
        keysAreAnyInt();
        keyIsUsedAsItIsAtTheMoment();
        mixWraps();
        CHECK.end();
    }

    private static void stationsAre0To4() {
        CHECK.about("STATIONS: 0 and 1 are POINTS, 2 is the RELAY, 3 and 4 are HOMES.");
        for (int station : new int[] {MIN, -1, 0, 1, 2, 3, 4, 5, MAX}) {
            boolean point = station == 0 || station == 1;
            boolean home = station == 3 || station == 4;
            String of = " of station " + station;
            RealmLogins x = new RealmLogins();
            CHECK.due("login" + of, x.login(station, 0, 0, 0, 0), point ? 0 : -1);
            CHECK.due("line" + of, x.line(station, 0, 0), point ? 1 : -1);
            CHECK.due("sync" + of, x.sync(station), home ? 0 : -1);
            CHECK.due("journal" + of, x.journal(station, 0), home ? 0 : -1);
            CHECK.due("crash" + of, x.crash(station), point || home || station == 2);
        }
    }

    private static void usersAre0To11() {
        CHECK.about("Users are 0 .. 11");
        for (int user : new int[] {0, 11}) {
            RealmLogins x = new RealmLogins();
            CHECK.due("enrol of user " + user, x.enrol(user, 5, 1), true);
            CHECK.due("login of user " + user, x.login(0, 0, user, 5, 1), 0);
        }
        for (int user : Edges.outside(0, 11)) {
            RealmLogins x = new RealmLogins();
            CHECK.due("enrol of user " + user, x.enrol(user, 5, 1), false);
            CHECK.due("login of user " + user, x.login(0, 0, user, 5, 1), -1);
        }
    }

    private static void everyIntHasAHome() {
        CHECK.about("the HOME OF an int u is 3 + (u & 1)");
        int[] ofHome3 = {0, 2, 10, 12, -2, MIN, MAX - 1};
        int[] ofHome4 = {1, 3, 11, 13, -1, MIN + 1, MAX};
        for (int u : ofHome3) {
            CHECK.due("the home of " + u, homeWhereItComesTo(u), 3);
        }
        for (int u : ofHome4) {
            CHECK.due("the home of " + u, homeWhereItComesTo(u), 4);
        }
    }

    private static int homeWhereItComesTo(int u) {
        RealmLogins x = Realm.askToRelay();
        x.forge(0, 3, u);
        Realm.reseal(x, 0, Realm.KEYS[0], 7);
        x.deliver(0);
        return x.field(0, 7);
    }

    /** One end's key changes just before each of the four ways of a login: only its own hearer minds. */
    private static void linksHaveTwoEnds() {
        CHECK.about("LINKS: 0 between point 0 and the relay, 1 between point 1 and the relay, "
                + "2 between the relay and home 3, 3 between the relay and home 4.");
        for (int run = 0; run < 4 * 8 * 4; run++) {
            int point = run & 1;
            int user = run >> 1 & 1;
            int link = run >> 2 & 3;
            boolean near = (run >> 4 & 1) == 0;
            int way = run >> 5;
            RealmLogins x = new RealmLogins();
            x.login(point, 0, user, 0, 9);
            for (int i = 0; i < way; i++) {
                pass(x, i, user);
            }
            x.key(link, near ? 1 : 0, near ? 0 : 1);
            int hearersLink = way == 0 || way == 3 ? point : 2 + user;
            boolean hearersEnd = link == hearersLink && near == way > 1;
            CHECK.due("way " + way + " of point " + point + " and user " + user + " with another "
                    + (near ? "near" : "far") + " key of link " + link, pass(x, way, user), hearersEnd ? 0 : 1);
        }
    }

    /** Point to relay, relay to home, home to relay, relay to point. */
    private static int pass(RealmLogins x, int way, int user) {
        int said = x.deliver(0);
        if (way == 1) {
            x.sync(3 + user);
        }
        return said;
    }

    private static void keysAreZeroAtFirst() {
        CHECK.about("All keys are 0 at first.");
        for (int run = 0; run < 4; run++) {
            wholeLogin(new RealmLogins(), run & 1, run >> 1, 0);
        }
    }

    private static void keysAreAnyInt() {
        CHECK.about("A link has a KEY (any int) at each of its two ends");
        for (int key : Edges.INTS) {
            for (int run = 0; run < 4; run++) {
                RealmLogins x = new RealmLogins();
                for (int link = 0; link < 4; link++) {
                    CHECK.due("key " + key, x.key(link, key, key), true);
                }
                wholeLogin(x, run & 1, run >> 1, key);
            }
        }
    }

    /** All links have this key at both ends: every datagram on the way has its seal, and is taken. */
    private static void wholeLogin(RealmLogins x, int point, int user, int key) {
        int home = 3 + user;
        int own = Edges.mix(MAX, 0);
        x.enrol(user, MIN, 1);
        x.login(point, 0, user, MIN, MAX);
        seal(x, key, Realm.ASK, MAX, user, MIN ^ Edges.mix(key, MAX));
        CHECK.due("relay, key " + key, x.deliver(0), 1);
        seal(x, key, Realm.ASK, own, user, MIN ^ Edges.mix(key, own));
        CHECK.due("home, key " + key, x.deliver(0), 1);
        CHECK.due("sync, key " + key, x.sync(home), 1);
        seal(x, key, Realm.ACCEPT, own, 0, 0);
        CHECK.due("relay, key " + key, x.deliver(0), 1);
        seal(x, key, Realm.ACCEPT, MAX, 0, 0);
        CHECK.due("point, key " + key, x.deliver(0), 1);
        CHECK.due("the line is UP", x.line(point, 0, 0), 2);
    }

    private static void seal(RealmLogins x, int key, int kind, int auth, int a, int b) {
        CHECK.due("B, key " + key, x.field(0, 4), b);
        CHECK.due("SEAL, key " + key, x.field(0, 5), Edges.seal(key, kind, 0, auth, a, b));
    }

    private static void keyIsUsedAsItIsAtTheMoment() {
        CHECK.about("A key is always used as it is at the moment of use.");
        RealmLogins x = new RealmLogins();
        x.enrol(0, 5, 6);
        x.login(0, 0, 0, 5, 9);
        x.key(0, MAX, MIN);
        CHECK.due("sent with the key of before", x.deliver(0), 0);
        x.key(0, MAX, MAX);
        CHECK.due("sends again", x.tick(5), 1);
        CHECK.due("with the key of now", x.field(0, 5),
                Edges.seal(MAX, 0, 0, 9, 0, 5 ^ Edges.mix(MAX, 9)));
        x.key(2, MIN, -1);
        CHECK.due("the relay hears with the key of now", x.deliver(0), 1);
        int own = Edges.mix(9, 0);
        CHECK.due("and sends with it", x.field(0, 5), Edges.seal(MIN, 0, 0, own, 0, 5 ^ Edges.mix(MIN, own)));
        x.copy(0);
        CHECK.due("the home has another", x.deliver(0), 0);
        x.key(2, 0, MIN);
        CHECK.due("now it has the same", x.deliver(0), 1);
        x.key(2, MAX, 1);
        x.sync(3);
        CHECK.due("an answer has the key of the sync", x.field(0, 5), Edges.seal(1, 1, 0, own, 0, 0));
        x.key(2, 1, 0);
        x.key(0, MAX, -1);
        CHECK.due("the relay hears with the key of now", x.deliver(0), 1);
        CHECK.due("and hands on with it", x.field(0, 5), Edges.seal(-1, 1, 0, 9, 0, 0));
        x.copy(0);
        CHECK.due("the point has another", x.deliver(0), 0);
        x.key(0, -1, 0);
        CHECK.due("now it has the same", x.deliver(0), 1);
    }

    private static void mixWraps() {
        CHECK.about("MIX(a, b), in ints that wrap: s = 31 * a + b + 5, t = s ^ (s >>> 13), "
                + "and MIX(a, b) is t * 40503.");
        int[][] worked = {
            {0, 0, 202515}, {-1, 26, 0}, {0, -5, 0}, {0, -6, 239599616}, {1, -37, 239599616},
            {0, MAX - 5, 119799808}, {0, MAX - 4, -119799808}, {0, MAX, -119637796}, {69273666, -5, 119840311},
            {MIN, MIN, 202515}, {MIN, MAX, 162012}, {MAX, MIN, 240612191}, {MAX, MAX, 240652694}};
        for (int[] one : worked) {
            CHECK.due("MIX(" + one[0] + ", " + one[1] + ")", mixSeenInB(one[0], one[1]), one[2]);
        }
        int[] ints = {MIN, MIN + 1, MIN / 31, -8192, -32, -6, -5, -1, 0, 1, 8187, MAX / 31, MAX / 31 + 1, MAX - 5, MAX};
        for (int a : ints) {
            for (int b : ints) {
                CHECK.due("MIX(" + a + ", " + b + ")", mixSeenInB(a, b), Edges.mix(a, b));
            }
        }
    }

    /** The B of an ASK with the password 0 is MIX(key, AUTH). */
    private static int mixSeenInB(int key, int auth) {
        RealmLogins x = new RealmLogins();
        x.key(0, key, 0);
        x.login(0, 0, 0, 0, auth);
        return x.field(0, 4);
    }
}
