/** Promise 2: key. */
public final class Edges02KeyTest {
    private static final Check CHECK = new Check("Edges02KeyTest");

    public static void main(String[] args) {
        linksAre0To3();
        keysAreReplaced();
        falseForOtherLinks();
        CHECK.end();
    }

    private static void linksAre0To3() {
        CHECK.about("The keys of a link become near and far");
        for (int link = 0; link < 4; link++) {
            for (int key : Edges.INTS) {
                RealmLogins x = new RealmLogins();
                CHECK.due("key(" + link + ", " + key + ", ..)", x.key(link, key, ~key), true);
                CHECK.same("keys", keys(x), due(link, key, ~key));
            }
        }
    }

    private static void keysAreReplaced() {
        CHECK.about("The keys of a link become near and far", "whatever they were");
        for (int link = 0; link < 4; link++) {
            RealmLogins x = new RealmLogins();
            x.key(link, Edges.MIN, Edges.MAX);
            CHECK.due("key again", x.key(link, 0, 1), true);
            CHECK.same("keys", keys(x), due(link, 0, 1));
            RealmLogins y = new RealmLogins();
            y.key(link, Edges.MIN, Edges.MAX);
            y.key(link, 0, 0);
            CHECK.same("keys of 0 again", keys(y), due(link, 0, 0));
        }
    }

    private static String due(int link, int near, int far) {
        StringBuilder due = new StringBuilder();
        for (int i = 0; i < 4; i++) {
            due.append(i).append(": ").append(i == link ? near : 0).append(' ').append(i == link ? far : 0).append(' ');
        }
        return due.toString();
    }

    /** The keys of the links, found by the seals for which what is sent and heard is right. */
    private static String keys(RealmLogins x) {
        int[] near = new int[4];
        int[] far = new int[4];
        for (int point = 0; point < 2; point++) {
            int user = point;
            x.login(point, 0, user, 0, 9);
            near[point] = sealedWith(x, 9);
            far[point] = heardWith(x, 9);
            int own = x.field(0, 2);
            near[2 + user] = sealedWith(x, own);
            far[2 + user] = heardWith(x, own);
            x.sync(3 + user);
            x.lose(0);
        }
        StringBuilder found = new StringBuilder();
        for (int link = 0; link < 4; link++) {
            found.append(link).append(": ").append(near[link]).append(' ').append(far[link]).append(' ');
        }
        return found.toString();
    }

    private static int sealedWith(RealmLogins x, int auth) {
        for (int key : Edges.INTS) {
            if (x.field(0, 5) == Realm.sealAt(x, 0, key, auth)) {
                return key;
            }
        }
        return 99;
    }

    /** Delivers the datagram at place 0 with the seals of one key behind the other, until it is taken. */
    private static int heardWith(RealmLogins x, int auth) {
        for (int key : new int[] {Edges.MIN, Edges.MIN + 1, -2, -1, 0, 1, Edges.MAX - 1, Edges.MAX}) {
            x.copy(0);
            int k = x.flight() - 1;
            Realm.reseal(x, k, key, auth);
            if (x.deliver(k) == 1) {
                x.lose(0);
                return key;
            }
        }
        return 99;
    }

    private static void falseForOtherLinks() {
        CHECK.about("false when the link is not 0 .. 3");
        Refusals refusals = new Refusals(CHECK);
        for (int link : Edges.outside(0, 3)) {
            for (int key : new int[] {1, Edges.MIN}) {
                refusals.no("key(" + link + ", " + key + ", " + key + ")", x -> x.key(link, key, key));
            }
        }
    }
}
