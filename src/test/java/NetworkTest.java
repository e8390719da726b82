/** Promises 7, 8, 9, 14, 15, and of 6 what the flight does. */
public final class NetworkTest {
    private static final Check CHECK = new Check("NetworkTest");
    private static final int MIN = Integer.MIN_VALUE;
    private static final int MAX = Integer.MAX_VALUE;
    private static final int[] NO_PLACES_OF_THREE = {-1, 3, 4, 24, MIN, MAX};

    public static void main(String[] args) {
        deliverTakesOutOfTheMiddle();
        loseTakesOut();
        copyPutsAtTheEnd();
        copyRefusesAFullFlight();
        whatIsSentIntoAFullFlightIsLost();
        forgeAddsAndWraps();
        fieldTellsAll();
        noPlaceChangesNothing();
        emptyFlightHasNoPlace();
        CHECK.end();
    }

    /** Three ASKs of point 0, told apart by their AUTH 10, 11 and 12. */
    private static RealmLogins three() {
        RealmLogins x = Realm.peopled();
        for (int line = 0; line < 3; line++) {
            x.login(0, line, 2 * line, 1000 + 2 * line, 10 + line);
        }
        return x;
    }

    private static void auths(RealmLogins x, int... due) {
        CHECK.due("flight", x.flight(), due.length);
        for (int k = 0; k < due.length; k++) {
            CHECK.due("field(" + k + ", 2)", x.field(k, 2), due[k]);
        }
    }

    private static void deliverTakesOutOfTheMiddle() {
        RealmLogins x = three();
        CHECK.due("deliver(1)", x.deliver(1), 1);
        auths(x, 10, 12, Realm.mix(11, 0));
        CHECK.due("deliver(2)", x.deliver(2), 1);
        auths(x, 10, 12);
        CHECK.due("home 3 made a record", x.journal(3, 0), 1);
        CHECK.due("deliver(0)", x.deliver(0), 1);
        auths(x, 12, Realm.mix(10, 1));
        x.forge(0, 5, 1);
        CHECK.due("a dropped one is out too", x.deliver(0), 0);
        auths(x, Realm.mix(10, 1));
    }

    private static void loseTakesOut() {
        RealmLogins x = three();
        CHECK.due("lose(1)", x.lose(1), true);
        auths(x, 10, 12);
        CHECK.due("lose(1)", x.lose(1), true);
        auths(x, 10);
        CHECK.due("lose(0)", x.lose(0), true);
        auths(x);
        CHECK.due("nobody heard it", x.journal(3, 0), 0);
        x.tick(5);
        auths(x, 10, 11, 12);
        CHECK.due("lose(0)", x.lose(0), true);
        auths(x, 11, 12);
    }

    private static void copyPutsAtTheEnd() {
        RealmLogins x = three();
        x.forge(1, 4, 77);
        CHECK.due("copy(1)", x.copy(1), true);
        auths(x, 10, 11, 12, 11);
        CHECK.same("a copy", Realm.parts(x, 3), Realm.parts(x, 1));
        x.forge(3, 2, 1);
        auths(x, 10, 11, 12, 12);
        x.forge(1, 2, -1);
        auths(x, 10, 10, 12, 12);
    }

    private static void copyRefusesAFullFlight() {
        RealmLogins x = three();
        for (int i = 3; i < 24; i++) {
            CHECK.due("copy at " + i, x.copy(2), true);
        }
        CHECK.due("flight", x.flight(), 24);
        for (int k = 0; k < 24; k++) {
            CHECK.due("copy when 24 are in flight", x.copy(k), false);
        }
        CHECK.due("flight", x.flight(), 24);
        CHECK.due("field(23, 2)", x.field(23, 2), 12);
        x.lose(0);
        CHECK.due("copy of the last", x.copy(22), true);
        CHECK.due("flight", x.flight(), 24);
        CHECK.due("copy", x.copy(22), false);
    }

    private static void whatIsSentIntoAFullFlightIsLost() {
        RealmLogins x = three();
        for (int i = 3; i < 24; i++) {
            x.copy(0);
        }
        CHECK.due("a login sends in vain", x.login(1, 0, 0, 1000, 5), 0);
        CHECK.due("flight", x.flight(), 24);
        CHECK.due("field(23, 2)", x.field(23, 2), 10);
        CHECK.due("the line is ASKING all the same", x.line(1, 0, 0), 1);
        CHECK.due("what comes out makes a place", x.deliver(0), 1);
        CHECK.due("flight", x.flight(), 24);
        CHECK.due("field(23, 2)", x.field(23, 2), Realm.mix(10, 0));
        CHECK.due("home", x.deliver(23), 1);
        x.copy(0);
        CHECK.due("a sync sends in vain", x.sync(3), 1);
        CHECK.due("flight", x.flight(), 24);
        CHECK.due("all are requests", x.field(23, 0), 0);
        CHECK.due("durable", x.journal(3, 1), 1);
    }

    private static void forgeAddsAndWraps() {
        RealmLogins x = three();
        for (int f = 0; f < 6; f++) {
            int[] before = new int[8];
            for (int i = 0; i < 8; i++) {
                before[i] = x.field(1, i);
            }
            String first = Realm.parts(x, 0);
            String third = Realm.parts(x, 2);
            CHECK.due("forge", x.forge(1, f, MAX), true);
            CHECK.due("forge", x.forge(1, f, 100), true);
            before[f] += MAX;
            before[f] += 100;
            for (int i = 0; i < 8; i++) {
                CHECK.due("field " + i + " after a forge of " + f, x.field(1, i), before[i]);
            }
            CHECK.same("its neighbour", Realm.parts(x, 0), first);
            CHECK.same("its neighbour", Realm.parts(x, 2), third);
        }
        CHECK.due("a forge by 0", x.forge(0, 0, 0), true);
        CHECK.due("there and", x.forge(0, 4, 9), true);
        CHECK.due("back", x.forge(0, 4, -9), true);
        CHECK.due("is right again", x.deliver(0), 1);
        CHECK.due("a forged one is dropped", x.deliver(0), 0);
    }

    private static void fieldTellsAll() {
        RealmLogins x = three();
        int hidden = 1004 ^ Realm.mix(Realm.KEYS[0], 12);
        int[] due = {0, 2, 12, 4, hidden, 0, 0, 2};
        due[5] = Realm.seal(Realm.KEYS[0], 0, 2, 12, 4, hidden);
        for (int f = 0; f < 8; f++) {
            CHECK.due("field(2, " + f + ")", x.field(2, f), due[f]);
        }
        for (int wrong : new int[] {-1, 8, 9, MIN, MAX}) {
            CHECK.due("field(2, " + wrong + ")", x.field(2, wrong), -1);
        }
        for (int wrong : NO_PLACES_OF_THREE) {
            CHECK.due("field(" + wrong + ", 7)", x.field(wrong, 7), -1);
        }
    }

    private static void noPlaceChangesNothing() {
        RealmLogins x = three();
        String before = Realm.look(x);
        for (int wrong : NO_PLACES_OF_THREE) {
            CHECK.due("deliver(" + wrong + ")", x.deliver(wrong), -1);
            CHECK.due("lose(" + wrong + ")", x.lose(wrong), false);
            CHECK.due("copy(" + wrong + ")", x.copy(wrong), false);
            CHECK.due("forge(" + wrong + ", 0, 1)", x.forge(wrong, 0, 1), false);
        }
        for (int wrong : new int[] {-1, 6, 7, 8, MIN, MAX}) {
            CHECK.due("forge(0, " + wrong + ", 1)", x.forge(0, wrong, 1), false);
        }
        CHECK.same("after refused calls", Realm.look(x), before);
    }

    private static void emptyFlightHasNoPlace() {
        RealmLogins x = new RealmLogins();
        CHECK.due("flight()", x.flight(), 0);
        CHECK.due("deliver(0)", x.deliver(0), -1);
        CHECK.due("lose(0)", x.lose(0), false);
        CHECK.due("copy(0)", x.copy(0), false);
        CHECK.due("forge(0, 0, 1)", x.forge(0, 0, 1), false);
        CHECK.due("field(0, 0)", x.field(0, 0), -1);
        CHECK.due("field(0, 6)", x.field(0, 6), -1);
        CHECK.due("flight()", x.flight(), 0);
    }
}
