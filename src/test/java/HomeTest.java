/** Promises 11, 13, 17, 18, and of 6 and 12 what a home does. */
public final class HomeTest {
    private static final Check CHECK = new Check("HomeTest");
    private static final int MIN = Integer.MIN_VALUE;
    private static final int MAX = Integer.MAX_VALUE;
    private static final int[] NO_HOMES = {-1, 0, 1, 2, 5, MIN, MAX};

    public static void main(String[] args) {
        askIsAccepted();
        askIsRejectedForAllThatIsWrong();
        askIsRejectedAtTheLimit();
        askIsRejectedWithoutAnAddress();
        reasonsHaveAnOrder();
        closeEndsAndCounts();
        closeOfNoSessionIsClosed();
        requestThatIsNotRightIsDropped();
        knownRequestIsNotCarriedOutAgain();
        requestIsKnownForTwentyTicks();
        latestRecordCounts();
        fullJournalDropsButKnows();
        syncSendsInOrder();
        syncRefusesOtherStations();
        crashForgetsWhatIsNotDurable();
        crashBringsBackWhatWasEndedSince();
        crashKeepsEndingsThatAreDurable();
        crashKeepsUsersAndTheOtherHome();
        evictEndsAndDoesNotCount();
        evictRefusesWrongInputs();
        holderAndJournalRefuseWrongInputs();
        CHECK.end();
    }

    private static void journal(RealmLogins x, int home, int... due) {
        for (int which = 0; which < 3; which++) {
            CHECK.due("journal(" + home + ", " + which + ")", x.journal(home, which), due[which]);
        }
    }

    private static void holders(RealmLogins x, int home, int... due) {
        for (int address = 0; address < 6; address++) {
            CHECK.due("holder(" + home + ", " + address + ")", x.holder(home, address), due[address]);
        }
    }

    /** The request that the relay sent to home 3 for an ASK of user 0 with AUTH 5, in flight alone. */
    private static RealmLogins asked() {
        RealmLogins x = Realm.peopled();
        x.login(0, 0, 0, 1000, 5);
        x.deliver(0);
        return x;
    }

    /** Delivers a copy of the datagram at place 0 to home 3, with other fields, made right. */
    private static int deliverAs(RealmLogins x, int kind, int id, int auth, int a, int b) {
        x.copy(0);
        int k = x.flight() - 1;
        int[] due = {kind, id, auth, a, b};
        for (int f = 0; f < due.length; f++) {
            x.forge(k, f, due[f] - x.field(k, f));
        }
        Realm.reseal(x, k, Realm.KEYS[2], auth);
        return x.deliver(k);
    }

    private static int ask(RealmLogins x, int auth, int user, int password) {
        return deliverAs(x, Realm.ASK, 0, auth, user, password ^ Realm.mix(Realm.KEYS[2], auth));
    }

    /** An ASK with the AUTH, and the answer that a sync of home 3 sends. */
    private static void askAndLook(RealmLogins x, int auth, int user, int password, int kind, int a, int b) {
        CHECK.due("an ASK of user " + user, ask(x, auth, user, password), 1);
        CHECK.due("sync", x.sync(3), 1);
        answer(x, kind, 0, auth, a, b);
    }

    /** Looks at the last in flight, an answer of home 3, and loses it. */
    private static void answer(RealmLogins x, int kind, int id, int auth, int a, int b) {
        int k = x.flight() - 1;
        CHECK.same("answer", Realm.parts(x, k),
                Realm.datagram(3, 2, Realm.KEYS[2], kind, id, auth, a, b));
        x.lose(k);
    }

    private static void askIsAccepted() {
        RealmLogins x = asked();
        CHECK.due("deliver", x.deliver(0), 1);
        CHECK.due("no answer before it is durable", x.flight(), 0);
        journal(x, 3, 1, 0, 0);
        holders(x, 3, 0, -1, -1, -1, -1, -1);
        CHECK.due("sync", x.sync(3), 1);
        journal(x, 3, 1, 1, 0);
        CHECK.due("flight", x.flight(), 1);
        answer(x, Realm.ACCEPT, 0, Realm.mix(5, 0), 0, 0);
        journal(x, 4, 0, 0, 0);
        holders(x, 4, -1, -1, -1, -1, -1, -1);
    }

    private static void askIsRejectedForAllThatIsWrong() {
        RealmLogins x = asked();
        askAndLook(x, 1, 2, 1003, Realm.REJECT, 1, 0);
        askAndLook(x, 2, 1, 1001, Realm.REJECT, 1, 0);
        int auth = 10;
        for (int user : new int[] {-1, -2, 12, 13, 14, MIN, MAX}) {
            askAndLook(x, auth, user, 0, Realm.REJECT, 1, 0);
            auth++;
        }
        RealmLogins empty = Realm.keyed();
        empty.login(0, 0, 0, 0, 5);
        empty.deliver(0);
        askAndLook(empty, 1, 2, 0, Realm.REJECT, 1, 0);
        holders(x, 3, -1, -1, -1, -1, -1, -1);
        askAndLook(x, 30, 2, 1002, Realm.ACCEPT, 9, 0);
    }

    private static void askIsRejectedAtTheLimit() {
        RealmLogins x = asked();
        x.enrol(2, 1002, 2);
        askAndLook(x, 1, 2, 1002, Realm.ACCEPT, 0, 0);
        askAndLook(x, 2, 4, 1004, Realm.ACCEPT, 1, 1);
        askAndLook(x, 3, 2, 1002, Realm.ACCEPT, 2, 2);
        askAndLook(x, 4, 2, 1002, Realm.REJECT, 2, 0);
        x.enrol(2, 1002, 1);
        askAndLook(x, 5, 2, 1002, Realm.REJECT, 2, 0);
        x.enrol(2, 1002, 3);
        askAndLook(x, 6, 2, 1002, Realm.ACCEPT, 5, 3);
        holders(x, 3, 2, 4, 2, 2, -1, -1);
    }

    private static void askIsRejectedWithoutAnAddress() {
        RealmLogins x = asked();
        for (int i = 0; i < 6; i++) {
            askAndLook(x, i, i < 4 ? 2 : 4, i < 4 ? 1002 : 1004, Realm.ACCEPT, i, i);
        }
        askAndLook(x, 6, 6, 1006, Realm.REJECT, 3, 0);
        CHECK.due("a CLOSE of session 3", deliverAs(x, Realm.CLOSE, 0, 7, 2, 3), 1);
        CHECK.due("a CLOSE of session 1", deliverAs(x, Realm.CLOSE, 0, 8, 2, 1), 1);
        x.sync(3);
        x.lose(2);
        x.lose(1);
        holders(x, 3, 2, -1, 2, -1, 4, 4);
        askAndLook(x, 9, 6, 1006, Realm.ACCEPT, 9, 1);
        askAndLook(x, 10, 8, 1008, Realm.ACCEPT, 10, 3);
        holders(x, 3, 2, 6, 2, 8, 4, 4);
    }

    private static void reasonsHaveAnOrder() {
        RealmLogins x = asked();
        for (int i = 0; i < 6; i++) {
            askAndLook(x, i, 2, 1002, Realm.ACCEPT, i, i);
        }
        askAndLook(x, 10, 2, 1, Realm.REJECT, 1, 0);
        askAndLook(x, 11, 2, 1002, Realm.REJECT, 2, 0);
        askAndLook(x, 12, 4, 1004, Realm.REJECT, 3, 0);
        x.enrol(4, 1004, 0);
        askAndLook(x, 13, 4, 1004, Realm.REJECT, 2, 0);
    }

    private static void closeEndsAndCounts() {
        RealmLogins x = asked();
        askAndLook(x, 1, 2, 1002, Realm.ACCEPT, 0, 0);
        askAndLook(x, 2, 2, 1002, Realm.ACCEPT, 1, 1);
        CHECK.due("CLOSE", deliverAs(x, Realm.CLOSE, 6, 3, 2, 0), 1);
        holders(x, 3, -1, 2, -1, -1, -1, -1);
        journal(x, 3, 3, 2, 1);
        CHECK.due("sync", x.sync(3), 1);
        answer(x, Realm.CLOSED, 6, 3, 2, 0);
        CHECK.due("CLOSE", deliverAs(x, Realm.CLOSE, 6, 4, 2, 1), 1);
        journal(x, 3, 4, 3, 2);
        holders(x, 3, -1, -1, -1, -1, -1, -1);
    }

    private static void closeOfNoSessionIsClosed() {
        RealmLogins x = asked();
        askAndLook(x, 1, 2, 1002, Realm.ACCEPT, 0, 0);
        askAndLook(x, 2, 4, 1004, Realm.ACCEPT, 1, 1);
        int[][] closes = {{2, 1}, {4, 0}, {2, 2}, {-1, -1}, {-1, 0}, {0, -1}, {0, 0}, {MIN, MAX}};
        for (int i = 0; i < closes.length; i++) {
            CHECK.due("CLOSE", deliverAs(x, Realm.CLOSE, 0, 10 + i, closes[i][0], closes[i][1]), 1);
            CHECK.due("sync", x.sync(3), 1);
            answer(x, Realm.CLOSED, 0, 10 + i, closes[i][0], closes[i][1]);
        }
        holders(x, 3, 2, 4, -1, -1, -1, -1);
        journal(x, 3, 10, 10, 0);
        deliverAs(x, Realm.CLOSE, 0, 30, 2, 0);
        deliverAs(x, Realm.CLOSE, 0, 31, 2, 0);
        journal(x, 3, 12, 10, 1);
    }

    private static void requestThatIsNotRightIsDropped() {
        for (int f = 0; f < 6; f++) {
            RealmLogins x = asked();
            x.forge(0, f, 1);
            CHECK.due("field " + f + " forged", x.deliver(0), 0);
            CHECK.due("flight", x.flight(), 0);
            journal(x, 3, 0, 0, 0);
        }
        RealmLogins x = asked();
        for (int kind : new int[] {1, 2, 4, 5, -1, MIN}) {
            CHECK.due("kind " + kind, deliverAs(x, kind, 0, 5, 0, 0), 0);
        }
        journal(x, 3, 0, 0, 0);
        CHECK.due("any ID and AUTH will do", deliverAs(x, Realm.CLOSE, MIN, MAX, 0, 0), 1);
        x.sync(3);
        answer(x, Realm.CLOSED, MIN, MAX, 0, 0);
    }

    private static void knownRequestIsNotCarriedOutAgain() {
        RealmLogins x = asked();
        x.copy(0);
        x.copy(0);
        x.copy(0);
        CHECK.due("first", x.deliver(0), 1);
        CHECK.due("not durable", x.deliver(0), 3);
        CHECK.due("nothing is sent", x.flight(), 2);
        journal(x, 3, 1, 0, 0);
        x.sync(3);
        x.lose(2);
        CHECK.due("durable", x.deliver(0), 2);
        CHECK.due("flight", x.flight(), 2);
        answer(x, Realm.ACCEPT, 0, Realm.mix(5, 0), 0, 0);
        x.key(2, Realm.KEYS[2], 9);
        Realm.reseal(x, 0, 9, Realm.mix(5, 0));
        CHECK.due("durable, another key", x.deliver(0), 2);
        CHECK.same("sealed with the key of now", Realm.parts(x, 0),
                Realm.datagram(3, 2, 9, Realm.ACCEPT, 0, Realm.mix(5, 0), 0, 0));
        journal(x, 3, 1, 1, 0);
        holders(x, 3, 0, -1, -1, -1, -1, -1);

        x = asked();
        CHECK.due("an ASK", ask(x, 1, 2, 1002), 1);
        CHECK.due("the same KIND, ID and AUTH", ask(x, 1, 4, 1), 3);
        CHECK.due("another KIND", deliverAs(x, Realm.CLOSE, 0, 1, 8, 8), 1);
        CHECK.due("another ID", deliverAs(x, Realm.CLOSE, 1, 1, 8, 8), 1);
        CHECK.due("another AUTH", deliverAs(x, Realm.CLOSE, 0, 2, 8, 8), 1);
        CHECK.due("known", deliverAs(x, Realm.CLOSE, 1, 1, 2, 0), 3);
        x.sync(3);
        for (int i = 0; i < 4; i++) {
            x.lose(1);
        }
        CHECK.due("known", deliverAs(x, Realm.CLOSE, 1, 1, 2, 0), 2);
        answer(x, Realm.CLOSED, 1, 1, 8, 8);
        CHECK.due("known", ask(x, 1, 4, 1), 2);
        answer(x, Realm.ACCEPT, 0, 1, 0, 0);
        journal(x, 3, 4, 4, 0);
    }

    private static void requestIsKnownForTwentyTicks() {
        RealmLogins x = asked();
        x.tick(1);
        CHECK.due("an ASK", ask(x, 1, 2, 1002), 1);
        x.sync(3);
        x.lose(1);
        x.tick(10);
        x.tick(10);
        while (x.flight() > 1) {
            x.lose(1);
        }
        CHECK.due("20 ticks later it is known", ask(x, 1, 2, 1002), 2);
        answer(x, Realm.ACCEPT, 0, 1, 0, 0);
        x.tick(1);
        CHECK.due("21 ticks later it is not, though it was sent again since", ask(x, 1, 2, 1002), 1);
        holders(x, 3, 2, 2, -1, -1, -1, -1);
        journal(x, 3, 2, 1, 0);

        x = asked();
        CHECK.due("an ASK", ask(x, 1, 2, 1002), 1);
        x.tick(10);
        x.tick(10);
        CHECK.due("not durable for 20 ticks", ask(x, 1, 2, 1002), 3);
        x.tick(1);
        CHECK.due("not known after 21 ticks", ask(x, 1, 2, 1002), 1);
    }

    private static void latestRecordCounts() {
        RealmLogins x = asked();
        CHECK.due("an ASK", ask(x, 1, 2, 1002), 1);
        x.sync(3);
        x.tick(10);
        x.tick(10);
        x.tick(1);
        while (x.flight() > 1) {
            x.lose(1);
        }
        CHECK.due("not known any more", ask(x, 1, 2, 1002), 1);
        CHECK.due("the latest is not durable", ask(x, 1, 2, 1002), 3);
        x.sync(3);
        answer(x, Realm.ACCEPT, 0, 1, 1, 1);
        x.tick(10);
        CHECK.due("the latest is durable", ask(x, 1, 2, 1002), 2);
        answer(x, Realm.ACCEPT, 0, 1, 1, 1);
    }

    private static void fullJournalDropsButKnows() {
        Desk desk = new Desk(3);
        RealmLogins x = desk.x;
        desk.ask(100, 2);
        desk.fill(1, 38);
        x.sync(3);
        CHECK.due("what finds no place is lost", x.flight(), 24);
        desk.clear();
        CHECK.due("the fortieth", desk.close(39, 8, 8), 1);
        journal(x, 3, 40, 39, 0);
        CHECK.due("one more", desk.close(40, 2, 0), 0);
        CHECK.due("one more ASK", desk.ask(41, 4), 0);
        CHECK.due("evict", x.evict(3, 0), false);
        CHECK.due("known, durable", desk.close(38, 8, 8), 2);
        CHECK.due("known, not durable", desk.close(39, 8, 8), 3);
        journal(x, 3, 40, 39, 0);
        holders(x, 3, 2, -1, -1, -1, -1, -1);
        x.crash(3);
        journal(x, 3, 39, 39, 0);
        CHECK.due("evict", x.evict(3, 0), true);
        journal(x, 3, 40, 39, 0);
    }

    private static void syncSendsInOrder() {
        RealmLogins x = asked();
        CHECK.due("nothing to do", x.sync(3), 0);
        CHECK.due("flight", x.flight(), 1);
        ask(x, 1, 2, 1002);
        ask(x, 2, 4, 1);
        x.evict(3, 0);
        deliverAs(x, Realm.CLOSE, 7, 3, 2, 0);
        CHECK.due("the other home", x.sync(4), 0);
        journal(x, 3, 4, 0, 0);
        CHECK.due("sync", x.sync(3), 4);
        journal(x, 3, 4, 4, 0);
        CHECK.due("an eviction has no answer", x.flight(), 4);
        answer(x, Realm.CLOSED, 7, 3, 2, 0);
        answer(x, Realm.REJECT, 0, 2, 1, 0);
        answer(x, Realm.ACCEPT, 0, 1, 0, 0);
        CHECK.due("sync again", x.sync(3), 0);
        CHECK.due("flight", x.flight(), 1);
        ask(x, 4, 2, 1002);
        CHECK.due("only what was not durable", x.sync(3), 1);
        answer(x, Realm.ACCEPT, 0, 4, 4, 0);
        CHECK.due("flight", x.flight(), 1);
    }

    private static void syncRefusesOtherStations() {
        RealmLogins x = asked();
        ask(x, 1, 2, 1002);
        String before = Realm.look(x);
        for (int wrong : NO_HOMES) {
            CHECK.due("sync(" + wrong + ")", x.sync(wrong), -1);
        }
        CHECK.same("after refused syncs", Realm.look(x), before);
    }

    private static void crashForgetsWhatIsNotDurable() {
        RealmLogins x = asked();
        askAndLook(x, 1, 2, 1002, Realm.ACCEPT, 0, 0);
        ask(x, 2, 4, 1004);
        ask(x, 3, 6, 1);
        holders(x, 3, 2, 4, -1, -1, -1, -1);
        CHECK.due("crash", x.crash(3), true);
        CHECK.due("what flies stays", x.flight(), 1);
        journal(x, 3, 1, 1, 0);
        holders(x, 3, 2, -1, -1, -1, -1, -1);
        CHECK.due("a durable request is known", ask(x, 1, 2, 1002), 2);
        answer(x, Realm.ACCEPT, 0, 1, 0, 0);
        CHECK.due("a forgotten one is not", ask(x, 3, 6, 1006), 1);
        holders(x, 3, 2, 6, -1, -1, -1, -1);
        CHECK.due("sync", x.sync(3), 1);
        answer(x, Realm.ACCEPT, 0, 3, 1, 1);
    }

    private static void crashBringsBackWhatWasEndedSince() {
        RealmLogins x = asked();
        ask(x, 1, 2, 1002);
        ask(x, 2, 4, 1004);
        x.sync(3);
        deliverAs(x, Realm.CLOSE, 0, 3, 2, 0);
        x.evict(3, 1);
        ask(x, 4, 6, 1006);
        holders(x, 3, 6, -1, -1, -1, -1, -1);
        journal(x, 3, 5, 2, 1);
        CHECK.due("crash", x.crash(3), true);
        holders(x, 3, 2, 4, -1, -1, -1, -1);
        journal(x, 3, 2, 2, 0);
        deliverAs(x, Realm.CLOSE, 0, 3, 2, 0);
        journal(x, 3, 3, 2, 1);
        holders(x, 3, -1, 4, -1, -1, -1, -1);
    }

    private static void crashKeepsEndingsThatAreDurable() {
        RealmLogins x = asked();
        ask(x, 1, 2, 1002);
        ask(x, 2, 4, 1004);
        ask(x, 3, 6, 1006);
        deliverAs(x, Realm.CLOSE, 0, 4, 2, 0);
        x.evict(3, 1);
        ask(x, 5, 8, 1008);
        x.sync(3);
        x.enrol(6, 0, 0);
        CHECK.due("crash", x.crash(3), true);
        holders(x, 3, 8, -1, 6, -1, -1, -1);
        journal(x, 3, 6, 6, 1);
        CHECK.due("crash", x.crash(3), true);
        journal(x, 3, 6, 6, 1);
        CHECK.due("CLOSE by the number that came before the crash", deliverAs(x, Realm.CLOSE, 0, 6, 8, 5), 1);
        journal(x, 3, 7, 6, 2);
        holders(x, 3, -1, -1, 6, -1, -1, -1);
    }

    private static void crashKeepsUsersAndTheOtherHome() {
        RealmLogins x = Realm.peopled();
        Realm.askHome(x, 0, 0, 1, 1);
        Realm.askHome(x, 0, 1, 0, 2);
        x.crash(3);
        journal(x, 4, 1, 0, 0);
        holders(x, 4, 1, -1, -1, -1, -1, -1);
        Realm.letIn(x, 0, 2, 0, 3);
        CHECK.due("users stay", x.line(0, 2, 1), 1);
        x.crash(4);
        journal(x, 4, 0, 0, 0);
        holders(x, 4, -1, -1, -1, -1, -1, -1);
        holders(x, 3, 0, -1, -1, -1, -1, -1);
        CHECK.due("lines stay", x.line(0, 0, 0), 1);
    }

    private static void evictEndsAndDoesNotCount() {
        RealmLogins x = asked();
        ask(x, 1, 2, 1002);
        ask(x, 2, 4, 1004);
        CHECK.due("evict", x.evict(3, 0), true);
        holders(x, 3, -1, 4, -1, -1, -1, -1);
        journal(x, 3, 3, 0, 0);
        CHECK.due("flight", x.flight(), 1);
        CHECK.due("a CLOSE of what was evicted", deliverAs(x, Realm.CLOSE, 0, 3, 2, 0), 1);
        journal(x, 3, 4, 0, 0);
        ask(x, 4, 6, 1006);
        holders(x, 3, 6, 4, -1, -1, -1, -1);
        CHECK.due("a record of an eviction has a number", x.sync(3), 5);
        answer(x, Realm.ACCEPT, 0, 4, 4, 0);
        while (x.flight() > 0) {
            x.lose(0);
        }
        Realm.letIn(x, 1, 0, 1, 9);
        CHECK.due("evict at home 4", x.evict(4, 0), true);
        holders(x, 4, -1, -1, -1, -1, -1, -1);
        CHECK.due("evict at home 3", x.evict(3, 1), true);
        holders(x, 3, 6, -1, -1, -1, -1, -1);
    }

    private static void evictRefusesWrongInputs() {
        RealmLogins x = asked();
        ask(x, 1, 2, 1002);
        String before = Realm.look(x);
        for (int wrong : NO_HOMES) {
            CHECK.due("evict(" + wrong + ", 0)", x.evict(wrong, 0), false);
        }
        for (int wrong : new int[] {-1, 1, 5, 6, 7, MIN, MAX}) {
            CHECK.due("evict(3, " + wrong + ")", x.evict(3, wrong), false);
        }
        CHECK.due("evict(4, 0)", x.evict(4, 0), false);
        CHECK.same("after refused evictions", Realm.look(x), before);
    }

    private static void holderAndJournalRefuseWrongInputs() {
        RealmLogins x = asked();
        ask(x, 1, 2, 1002);
        for (int wrong : NO_HOMES) {
            CHECK.due("holder(" + wrong + ", 0)", x.holder(wrong, 0), -1);
            CHECK.due("journal(" + wrong + ", 0)", x.journal(wrong, 0), -1);
        }
        for (int wrong : new int[] {-1, 6, 7, MIN, MAX}) {
            CHECK.due("holder(3, " + wrong + ")", x.holder(3, wrong), -1);
        }
        for (int wrong : new int[] {-1, 3, 4, MIN, MAX}) {
            CHECK.due("journal(3, " + wrong + ")", x.journal(3, wrong), -1);
        }
    }
}
