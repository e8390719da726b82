/** Of promises 6 and 12 what the relay does. */
public final class RelayTest {
    private static final Check CHECK = new Check("RelayTest");
    private static final int MIN = Integer.MIN_VALUE;

    public static void main(String[] args) {
        requestGoesToTheHomeOfA();
        requestThatIsNotRightIsDropped();
        requestUsesItsEntryAgain();
        otherPointKindIdOrAuthMakesAnEntry();
        entryUsedAgainKeepsItsHome();
        ninthEntryTakesThePlaceOfTheFirst();
        answerIsHandedOn();
        answerIsHandedOnEachTime();
        answerThatIsNotRightIsDropped();
        answerWithoutItsEntryIsDropped();
        answerOfTheOtherHomeIsDropped();
        crashOfTheRelay();
        CHECK.end();
    }

    /** An ASK of the point and ID 0 with A forged and made right. */
    private static RealmLogins asked(int point, int a, int auth) {
        RealmLogins x = Realm.peopled();
        x.login(point, 0, 0, 1000, auth);
        x.forge(0, 3, a);
        Realm.reseal(x, 0, Realm.KEYS[point], auth);
        return x;
    }

    private static void requestGoesToTheHomeOfA() {
        for (int a : new int[] {0, 1, 11, 12, 13, -1, -2, MIN, Integer.MAX_VALUE}) {
            RealmLogins x = asked(1, a, 40);
            int link = 2 + (a & 1);
            int own = Realm.mix(40, 0);
            CHECK.due("deliver", x.deliver(0), 1);
            CHECK.due("flight", x.flight(), 1);
            CHECK.same("ASK for " + a, Realm.parts(x, 0), Realm.datagram(2, 1 + link, Realm.KEYS[link],
                    Realm.ASK, 0, own, a, 1000 ^ Realm.mix(Realm.KEYS[link], own)));
        }
        RealmLogins x = Realm.peopled();
        Realm.letIn(x, 1, 2, 5, 6);
        x.logout(1, 2, 7);
        CHECK.due("deliver", x.deliver(0), 1);
        CHECK.same("CLOSE", Realm.parts(x, 0),
                Realm.datagram(2, 4, Realm.KEYS[3], Realm.CLOSE, 1, Realm.mix(7, 1), 5, 0));
    }

    private static void requestThatIsNotRightIsDropped() {
        for (int f = 0; f < 6; f++) {
            RealmLogins x = asked(0, 0, 40);
            x.forge(0, f, 1);
            CHECK.due("field " + f + " forged", x.deliver(0), 0);
            CHECK.due("flight", x.flight(), 0);
            CHECK.due("sends again", x.tick(5), 1);
            CHECK.due("no entry was made", x.deliver(0), 1);
            CHECK.due("the first entry's auth", x.field(0, 2), Realm.mix(40, 0));
        }
        for (int kind : new int[] {1, 2, 4, 5, -1, MIN}) {
            RealmLogins x = asked(0, 0, 40);
            x.forge(0, 0, kind);
            Realm.reseal(x, 0, Realm.KEYS[0], 40);
            CHECK.due("kind " + kind + " from a point", x.deliver(0), 0);
            CHECK.due("flight", x.flight(), 0);
        }
    }

    private static void requestUsesItsEntryAgain() {
        RealmLogins x = asked(0, 0, 40);
        x.copy(0);
        x.copy(0);
        CHECK.due("first", x.deliver(0), 1);
        CHECK.due("again", x.deliver(0), 2);
        CHECK.same("the same is sent", Realm.parts(x, 2), Realm.parts(x, 1));
        x.key(2, 8, 8);
        CHECK.due("again", x.deliver(0), 2);
        int own = Realm.mix(40, 0);
        CHECK.same("sent with the key of now", Realm.parts(x, 2), Realm.datagram(
                2, 3, 8, Realm.ASK, 0, own, 0, 1000 ^ Realm.mix(8, own)));
    }

    private static void otherPointKindIdOrAuthMakesAnEntry() {
        RealmLogins x = asked(0, 0, 40);
        x.copy(0);
        x.copy(0);
        x.copy(0);
        x.forge(1, 0, Realm.CLOSE);
        Realm.reseal(x, 1, Realm.KEYS[0], 40);
        x.forge(2, 1, MIN);
        Realm.reseal(x, 2, Realm.KEYS[0], 40);
        x.forge(3, 2, 1);
        Realm.reseal(x, 3, Realm.KEYS[0], 41);
        x.login(1, 0, 0, 1000, 40);
        CHECK.due("first", x.deliver(0), 1);
        CHECK.due("another kind", x.deliver(0), 1);
        CHECK.due("another ID", x.deliver(0), 1);
        CHECK.due("another AUTH", x.deliver(0), 1);
        CHECK.due("another point", x.deliver(0), 1);
        for (int i = 0; i < 5; i++) {
            CHECK.due("ID", x.field(i, 1), i);
            CHECK.due("AUTH", x.field(i, 2), Realm.mix(i == 3 ? 41 : 40, i));
        }
    }

    private static void entryUsedAgainKeepsItsHome() {
        RealmLogins x = asked(0, 0, 40);
        x.copy(0);
        x.forge(1, 3, 1);
        Realm.reseal(x, 1, Realm.KEYS[0], 40);
        CHECK.due("first", x.deliver(0), 1);
        CHECK.due("the same but for A", x.deliver(0), 2);
        CHECK.due("A", x.field(1, 3), 1);
        CHECK.due("receiver", x.field(1, 7), 3);
        x.enrol(1, 1000, 6);
        x.deliver(1);
        x.sync(3);
        CHECK.due("home 3 does not know user 1: kind", x.field(1, 0), Realm.REJECT);
        CHECK.due("home 3 does not know user 1: A", x.field(1, 3), 1);
    }

    private static void ninthEntryTakesThePlaceOfTheFirst() {
        RealmLogins x = asked(0, 0, 0);
        for (int i = 1; i < 9; i++) {
            x.copy(0);
            x.forge(i, 2, i);
            Realm.reseal(x, i, Realm.KEYS[0], i);
        }
        x.copy(0);
        x.copy(1);
        x.copy(2);
        for (int i = 0; i < 9; i++) {
            CHECK.due("entry " + i, x.deliver(0), 1);
            CHECK.due("its number", x.field(11, 1), i % 8);
            CHECK.due("its own auth", x.field(11, 2), Realm.mix(i, i));
        }
        CHECK.due("the first is gone", x.deliver(0), 1);
        CHECK.due("in the place behind", x.field(11, 1), 1);
        CHECK.due("its own auth is new", x.field(11, 2), Realm.mix(0, 9));
        CHECK.due("the second is gone", x.deliver(0), 1);
        CHECK.due("in the place behind", x.field(11, 1), 2);
        CHECK.due("the third is gone", x.deliver(0), 1);
        CHECK.due("in the place behind", x.field(11, 1), 3);
    }

    /** The answer of home 3 to an ASK of line 2 of point 1, ID 1, AUTH 60, in flight alone. */
    private static RealmLogins answered() {
        RealmLogins x = Realm.peopled();
        Realm.letIn(x, 1, 0, 1, 59);
        Realm.askHome(x, 1, 2, 4, 60);
        x.sync(3);
        return x;
    }

    private static void answerIsHandedOn() {
        RealmLogins x = answered();
        x.forge(0, 2, 12345);
        CHECK.due("AUTH is not looked at", x.deliver(0), 1);
        CHECK.due("flight", x.flight(), 1);
        CHECK.same("ACCEPT", Realm.parts(x, 0),
                Realm.datagram(2, 1, Realm.KEYS[1], Realm.ACCEPT, 1, 60, 0, 0));
        for (int kind : new int[] {Realm.REJECT, Realm.CLOSED}) {
            x = answered();
            x.forge(0, 0, kind - Realm.ACCEPT);
            x.forge(0, 3, MIN);
            x.forge(0, 4, -7);
            Realm.reseal(x, 0, Realm.KEYS[2], Realm.mix(60, 1));
            CHECK.due("deliver", x.deliver(0), 1);
            CHECK.same("kind " + kind, Realm.parts(x, 0),
                    Realm.datagram(2, 1, Realm.KEYS[1], kind, 1, 60, MIN, -7));
        }
    }

    private static void answerIsHandedOnEachTime() {
        RealmLogins x = answered();
        x.copy(0);
        CHECK.due("first", x.deliver(0), 1);
        CHECK.due("the entry stays", x.deliver(0), 1);
        CHECK.same("the same is sent", Realm.parts(x, 1), Realm.parts(x, 0));
    }

    private static void answerThatIsNotRightIsDropped() {
        for (int f : new int[] {0, 1, 3, 4, 5}) {
            RealmLogins x = answered();
            x.forge(0, f, 1);
            CHECK.due("field " + f + " forged", x.deliver(0), 0);
            CHECK.due("flight", x.flight(), 0);
        }
        for (int kind : new int[] {Realm.ASK, Realm.CLOSE, 5, -1}) {
            RealmLogins x = answered();
            x.forge(0, 0, kind - Realm.ACCEPT);
            Realm.reseal(x, 0, Realm.KEYS[2], Realm.mix(60, 1));
            CHECK.due("kind " + kind + " from a home", x.deliver(0), 0);
        }
        RealmLogins x = answered();
        Realm.reseal(x, 0, Realm.KEYS[2], 60);
        CHECK.due("sealed for the point's AUTH", x.deliver(0), 0);
    }

    private static void answerWithoutItsEntryIsDropped() {
        for (int id : new int[] {2, 7, 8, 9, -1, MIN, Integer.MAX_VALUE}) {
            RealmLogins x = answered();
            x.forge(0, 1, id - 1);
            x.copy(0);
            Realm.reseal(x, 0, Realm.KEYS[2], Realm.mix(60, 1));
            Realm.reseal(x, 1, Realm.KEYS[2], 0);
            CHECK.due("ID " + id, x.deliver(0), 0);
            CHECK.due("ID " + id, x.deliver(0), 0);
            CHECK.due("flight", x.flight(), 0);
        }
    }

    private static void answerOfTheOtherHomeIsDropped() {
        RealmLogins x = answered();
        x.forge(0, 1, -1);
        Realm.reseal(x, 0, Realm.KEYS[2], Realm.mix(59, 0));
        CHECK.due("entry 0 has home 4", x.deliver(0), 0);
        CHECK.due("flight", x.flight(), 0);
    }

    private static void crashOfTheRelay() {
        RealmLogins x = Realm.peopled();
        for (int i = 0; i < 8; i++) {
            x.login(i / 4, i % 4, 0, 1, 60 + i);
        }
        for (int i = 0; i < 16; i++) {
            CHECK.due("eight entries and eight records", x.deliver(0), 1);
        }
        x.sync(3);
        CHECK.due("crash", x.crash(2), true);
        CHECK.due("what flies stays", x.flight(), 8);
        for (int i = 0; i < 8; i++) {
            CHECK.due("no entry is there", x.deliver(0), 0);
        }
        CHECK.due("lines stay, and send again", x.tick(5), 8);
        x.lose(0);
        for (int i = 1; i < 8; i++) {
            CHECK.due("an entry is made", x.deliver(0), 1);
            CHECK.due("from place 0 on", x.field(6, 1), i - 1);
            CHECK.due("the number of entries made goes on", x.field(6, 2), Realm.mix(60 + i, 7 + i));
        }
        CHECK.due("a new request for the home", x.deliver(0), 1);
        CHECK.due("the home's records stay", x.journal(3, 0), 9);
    }
}
