/** Promises 1 to 3: a new object, key, enrol. */
public final class BeginningTest {
    private static final Check CHECK = new Check("BeginningTest");
    private static final int MIN = Integer.MIN_VALUE;
    private static final int MAX = Integer.MAX_VALUE;

    public static void main(String[] args) {
        newObjectIsEmpty();
        newObjectHasNoUserAndKeysOfZero();
        objectsAreApart();
        keyIsUsedAtItsOwnEnd();
        keyIsUsedAsItIsAtTheMoment();
        keyRefusesOtherLinks();
        enrolTakesTheEdges();
        enrolReplacesWhatWasBefore();
        enrolRefusesWrongInputs();
        CHECK.end();
    }

    private static void newObjectIsEmpty() {
        CHECK.due("NONE", RealmLogins.NONE, -1);
        StringBuilder due = new StringBuilder("flight 0");
        for (int i = 0; i < 8; i++) {
            due.append(" line").append(i / 4).append(i % 4).append(" 0 0 -1 -1 -1");
        }
        due.append(" home3 -1 -1 -1 -1 -1 -1 j0 j0 j0 home4 -1 -1 -1 -1 -1 -1 j0 j0 j0");
        CHECK.same("a new object", Realm.look(new RealmLogins()), due.toString());
    }

    private static void newObjectHasNoUserAndKeysOfZero() {
        RealmLogins x = new RealmLogins();
        for (int user = 0; user < 12; user++) {
            int point = user & 1;
            x.login(point, 0, user, 0, user);
            CHECK.same("an ASK with keys of 0", Realm.parts(x, 0),
                    Realm.datagram(point, 2, 0, Realm.ASK, (user / 2) % 8, user, user, Realm.mix(0, user)));
            CHECK.due("relay hears with a key of 0", x.deliver(0), 1);
            CHECK.due("home hears with a key of 0", x.deliver(0), 1);
            x.sync(3 + (user & 1));
            CHECK.due("nobody is enrolled: kind", x.field(0, 0), Realm.REJECT);
            CHECK.due("nobody is enrolled: A", x.field(0, 3), 1);
            CHECK.due("relay hears the answer", x.deliver(0), 1);
            CHECK.due("point hears the answer", x.deliver(0), 1);
            CHECK.due("verdict", x.line(point, 0, 1), 2);
        }
    }

    private static void objectsAreApart() {
        RealmLogins x = Realm.peopled();
        RealmLogins other = new RealmLogins();
        String before = Realm.look(other);
        Realm.letIn(x, 0, 0, 0, 1);
        x.login(0, 1, 2, 3, 4);
        CHECK.same("another object", Realm.look(other), before);
    }

    /** Every end gets a key of its own; each datagram is sealed with the key at the sender's end. */
    private static void keyIsUsedAtItsOwnEnd() {
        for (int user = 0; user < 2; user++) {
            for (int point = 0; point < 2; point++) {
                RealmLogins x = new RealmLogins();
                for (int link = 0; link < 4; link++) {
                    CHECK.due("key", x.key(link, 10 + link, 20 + link), true);
                }
                x.enrol(user, 5, 1);
                int toHome = 2 + user;
                x.login(point, 0, user, 5, 7);
                CHECK.same("ASK of a point", Realm.parts(x, 0), Realm.datagram(
                        point, 2, 10 + point, Realm.ASK, 0, 7, user, 5 ^ Realm.mix(10 + point, 7)));
                Realm.reseal(x, 0, 20 + point, 7);
                CHECK.due("right for the key at the relay's end", x.deliver(0), 1);
                int own = Realm.mix(7, 0);
                int hidden = 5 ^ Realm.mix(10 + point, 7) ^ Realm.mix(20 + point, 7)
                        ^ Realm.mix(10 + toHome, own);
                CHECK.same("ASK of the relay", Realm.parts(x, 0), Realm.datagram(
                        2, 3 + user, 10 + toHome, Realm.ASK, 0, own, user, hidden));
                x.forge(0, 4, (5 ^ Realm.mix(20 + toHome, own)) - hidden);
                Realm.reseal(x, 0, 20 + toHome, own);
                CHECK.due("right for the key at the home's end", x.deliver(0), 1);
                x.sync(3 + user);
                CHECK.same("ACCEPT of the home", Realm.parts(x, 0), Realm.datagram(
                        3 + user, 2, 20 + toHome, Realm.ACCEPT, 0, own, 0, 0));
                Realm.reseal(x, 0, 10 + toHome, own);
                CHECK.due("right for the relay's key to the home", x.deliver(0), 1);
                CHECK.same("ACCEPT of the relay", Realm.parts(x, 0), Realm.datagram(
                        2, point, 20 + point, Realm.ACCEPT, 0, 7, 0, 0));
                Realm.reseal(x, 0, 10 + point, 7);
                CHECK.due("right for the point's key", x.deliver(0), 1);
                CHECK.due("the line is up", x.line(point, 0, 0), 2);
            }
        }
    }

    private static void keyIsUsedAsItIsAtTheMoment() {
        RealmLogins x = Realm.peopled();
        x.login(0, 0, 0, 1000, 9);
        x.key(0, MIN, MAX);
        CHECK.due("a seal of the old key", x.deliver(0), 0);
        CHECK.due("sends again", x.tick(5), 1);
        CHECK.same("sent with the new key", Realm.parts(x, 0),
                Realm.datagram(0, 2, MIN, Realm.ASK, 0, 9, 0, 1000 ^ Realm.mix(MIN, 9)));
        x.key(0, 0, MIN);
        CHECK.due("the relay's new key fits what flies", x.deliver(0), 1);
        CHECK.due("home", x.deliver(0), 1);
        x.key(2, Realm.KEYS[2], 55);
        x.sync(3);
        CHECK.same("the answer has the key at the sync", Realm.parts(x, 0),
                Realm.datagram(3, 2, 55, Realm.ACCEPT, 0, Realm.mix(9, 0), 0, 0));
        CHECK.due("not right at the relay", x.deliver(0), 0);
    }

    private static void keyRefusesOtherLinks() {
        RealmLogins x = Realm.peopled();
        x.login(0, 0, 0, 1000, 9);
        x.login(1, 0, 1, 1001, 9);
        String before = Realm.look(x);
        for (int link : new int[] {-1, 4, 5, MIN, MAX}) {
            CHECK.due("key(" + link + ")", x.key(link, 1, 2), false);
        }
        CHECK.same("after refused keys", Realm.look(x), before);
        for (int i = 0; i < 4; i++) {
            CHECK.due("all keys stayed", x.deliver(0), 1);
        }
        x.sync(3);
        x.sync(4);
        for (int i = 0; i < 4; i++) {
            CHECK.due("all keys stayed", x.deliver(0), 1);
        }
    }

    private static void enrolTakesTheEdges() {
        RealmLogins x = Realm.keyed();
        CHECK.due("enrol(0, MIN, 0)", x.enrol(0, MIN, 0), true);
        CHECK.due("enrol(11, MAX, 6)", x.enrol(11, MAX, 6), true);
        x.login(0, 0, 0, MIN, 1);
        x.login(0, 1, 11, MAX, 2);
        for (int i = 0; i < 4; i++) {
            x.deliver(0);
        }
        x.sync(3);
        x.sync(4);
        CHECK.due("a limit of 0: kind", x.field(0, 0), Realm.REJECT);
        CHECK.due("a limit of 0: A", x.field(0, 3), 2);
        CHECK.due("a limit of 0: B", x.field(0, 4), 0);
        CHECK.due("user 11 at home 4", x.field(1, 0), Realm.ACCEPT);
        CHECK.due("sender", x.field(1, 6), 4);
        CHECK.due("holder", x.holder(4, 0), 11);
    }

    private static void enrolReplacesWhatWasBefore() {
        RealmLogins x = Realm.keyed();
        x.enrol(2, 1002, 2);
        Realm.letIn(x, 0, 0, 2, 1);
        CHECK.due("let in", x.line(0, 0, 1), 1);
        CHECK.due("enrol anew", x.enrol(2, 1002, 1), true);
        CHECK.due("open sessions stay", x.holder(3, 0), 2);
        Realm.letIn(x, 0, 1, 2, 2);
        CHECK.due("the new limit holds", x.line(0, 1, 1), 2);
        x.enrol(2, 77, 0);
        Realm.askHome(x, 0, 1, 2, 3);
        x.sync(3);
        CHECK.due("the old password is wrong", x.field(0, 3), 1);
        x.lose(0);
        x.enrol(2, 1002, 6);
        Realm.letIn(x, 0, 2, 2, 4);
        CHECK.due("let in again", x.line(0, 2, 4), 1);
    }

    private static void enrolRefusesWrongInputs() {
        RealmLogins x = Realm.keyed();
        x.enrol(0, 1000, 1);
        x.enrol(1, 1001, 1);
        x.enrol(11, 1011, 1);
        for (int user : new int[] {-1, 12, 13, MIN, MAX}) {
            CHECK.due("enrol(" + user + ", 1, 1)", x.enrol(user, 1, 1), false);
        }
        for (int limit : new int[] {-1, 7, MIN, MAX}) {
            CHECK.due("enrol(0, 1, " + limit + ")", x.enrol(0, 1, limit), false);
        }
        Realm.letIn(x, 0, 0, 0, 1);
        Realm.letIn(x, 0, 1, 1, 2);
        Realm.letIn(x, 0, 2, 11, 3);
        CHECK.due("user 0 as enrolled", x.line(0, 0, 1), 1);
        CHECK.due("user 1 as enrolled", x.line(0, 1, 1), 1);
        CHECK.due("user 11 as enrolled", x.line(0, 2, 1), 1);
    }
}
