/** Promises 4, 5, 10, 16, and of 6 and 12 what a point does. */
public final class PointTest {
    private static final Check CHECK = new Check("PointTest");
    private static final int MIN = Integer.MIN_VALUE;
    private static final int MAX = Integer.MAX_VALUE;

    public static void main(String[] args) {
        loginSends();
        loginRefusesWrongInputs();
        newIdsGoRoundAndPassThoseTaken();
        logoutSends();
        logoutRefusesWrongInputs();
        verdictsComeAndGo();
        pointDropsWhatItDoesNotWaitFor();
        pointDropsWhatIsNotRight();
        acceptTakesAnyInts();
        tickSendsThreeTimesInAll();
        tickCountsFromTheLatestSending();
        tickGivesUpOfClosing();
        tickGoesThroughPointsAndLinesInOrder();
        tickCountsWhatIsLost();
        tickRefusesWrongInputs();
        tickLeavesLinesThatAreNotPending();
        crashOfAPoint();
        lineRefusesWrongInputs();
        CHECK.end();
    }

    private static void loginSends() {
        RealmLogins x = Realm.keyed();
        CHECK.due("login", x.login(1, 3, 11, MIN, MAX), 0);
        CHECK.due("flight", x.flight(), 1);
        CHECK.same("ASK", Realm.parts(x, 0), Realm.datagram(
                1, 2, Realm.KEYS[1], Realm.ASK, 0, MAX, 11, MIN ^ Realm.mix(Realm.KEYS[1], MAX)));
        line(x, 1, 3, 1, 0, 0, -1, -1);
        line(x, 1, 2, 0, 0, -1, -1, -1);
        line(x, 0, 3, 0, 0, -1, -1, -1);
    }

    private static void loginRefusesWrongInputs() {
        RealmLogins x = Realm.peopled();
        Realm.letIn(x, 0, 0, 0, 1);
        Realm.letIn(x, 0, 2, 4, 1);
        x.logout(0, 2, 5);
        x.login(0, 1, 2, 3, 4);
        String before = Realm.look(x);
        for (int wrong : new int[] {-1, 2, 3, MIN, MAX}) {
            CHECK.due("login of point " + wrong, x.login(wrong, 0, 0, 1000, 1), -1);
        }
        for (int wrong : new int[] {-1, 4, MIN, MAX}) {
            CHECK.due("login of line " + wrong, x.login(0, wrong, 0, 1000, 1), -1);
        }
        for (int wrong : new int[] {-1, 12, MIN, MAX}) {
            CHECK.due("login of user " + wrong, x.login(0, 3, wrong, 1000, 1), -1);
        }
        CHECK.due("login of a line that is UP", x.login(0, 0, 0, 1000, 1), -1);
        CHECK.due("login of a line that is ASKING", x.login(0, 1, 0, 1000, 1), -1);
        CHECK.due("login of a line that is CLOSING", x.login(0, 2, 0, 1000, 1), -1);
        CHECK.same("after refused logins", Realm.look(x), before);
        CHECK.due("no ID was given out", x.login(0, 3, 0, 1000, 1), 4);
    }

    private static void newIdsGoRoundAndPassThoseTaken() {
        RealmLogins x = Realm.keyed();
        CHECK.due("a first ID", x.login(0, 3, 0, 1, 1), 0);
        for (int i = 1; i <= 7; i++) {
            CHECK.due("the next ID", x.login(0, 0, 0, 1, i), i);
            turnAway(x, 1);
        }
        CHECK.due("0 is behind 7, and it is taken", x.login(0, 0, 0, 1, 8), 1);
        CHECK.due("the other point has IDs of its own", x.login(1, 0, 0, 1, 9), 0);
        CHECK.due("the next ID", x.login(0, 1, 0, 1, 10), 2);
        for (int i = 3; i <= 7; i++) {
            CHECK.due("the next ID", x.login(0, 2, 0, 1, 20 + i), i);
            turnAway(x, 4);
        }
        CHECK.due("0, 1 and 2 are taken", x.login(0, 2, 0, 1, 30), 3);
        turnAway(x, 0);
        line(x, 0, 3, 0, 2, -1, -1, -1);
        CHECK.due("not the least, the next", x.login(0, 3, 0, 1, 31), 4);
    }

    /** The ASK at place k of a user that home 3 does not know goes its way, and so does the answer. */
    private static void turnAway(RealmLogins x, int k) {
        int end = x.flight() - 1;
        CHECK.due("relay", x.deliver(k), 1);
        CHECK.due("home", x.deliver(end), 1);
        CHECK.due("sync", x.sync(3), 1);
        CHECK.due("relay", x.deliver(end), 1);
        CHECK.due("a REJECT is taken", x.deliver(end), 1);
    }

    private static void logoutSends() {
        RealmLogins x = Realm.peopled();
        Realm.letIn(x, 0, 3, 7, 1);
        Realm.letIn(x, 0, 1, 3, 1);
        line(x, 0, 1, 2, 1, -1, 1, 1);
        CHECK.due("logout", x.logout(0, 1, MIN), 2);
        line(x, 0, 1, 3, 1, 2, 1, 1);
        CHECK.due("flight", x.flight(), 1);
        CHECK.same("CLOSE", Realm.parts(x, 0),
                Realm.datagram(0, 2, Realm.KEYS[0], Realm.CLOSE, 2, MIN, 3, 1));
        CHECK.due("relay", x.deliver(0), 1);
        CHECK.due("home", x.deliver(0), 1);
        x.sync(4);
        CHECK.due("relay", x.deliver(0), 1);
        CHECK.due("CLOSED settles", x.deliver(0), 1);
        line(x, 0, 1, 0, 1, -1, -1, -1);
        line(x, 0, 3, 2, 1, -1, 0, 0);
        CHECK.due("a login gives the verdict 0", x.login(0, 1, 0, 0, 0), 3);
        line(x, 0, 1, 1, 0, 3, -1, -1);
    }

    private static void logoutRefusesWrongInputs() {
        RealmLogins x = Realm.peopled();
        Realm.letIn(x, 0, 0, 0, 1);
        Realm.letIn(x, 0, 2, 4, 1);
        x.logout(0, 2, 5);
        x.login(0, 1, 2, 3, 4);
        String before = Realm.look(x);
        for (int wrong : new int[] {-1, 2, 3, MIN, MAX}) {
            CHECK.due("logout of point " + wrong, x.logout(wrong, 0, 1), -1);
        }
        for (int wrong : new int[] {-1, 4, MIN, MAX}) {
            CHECK.due("logout of line " + wrong, x.logout(0, wrong, 1), -1);
        }
        CHECK.due("logout of a line that is ASKING", x.logout(0, 1, 1), -1);
        CHECK.due("logout of a line that is CLOSING", x.logout(0, 2, 1), -1);
        CHECK.due("logout of a line that is IDLE", x.logout(0, 3, 1), -1);
        CHECK.due("logout of a line of the other point", x.logout(1, 0, 1), -1);
        CHECK.same("after refused logouts", Realm.look(x), before);
        CHECK.due("no ID was given out", x.logout(0, 0, 1), 4);
    }

    private static void verdictsComeAndGo() {
        RealmLogins x = Realm.peopled();
        x.login(0, 0, 0, 1, 1);
        x.deliver(0);
        x.deliver(0);
        Realm.settle(x, 3);
        line(x, 0, 0, 0, 2, -1, -1, -1);
        CHECK.due("login after a REJECT", x.login(0, 0, 0, 1000, 2), 1);
        line(x, 0, 0, 1, 0, 1, -1, -1);
        x.lose(0);
        x.tick(10);
        x.tick(5);
        line(x, 0, 0, 0, 3, -1, -1, -1);
        x.lose(0);
        x.lose(0);
        Realm.letIn(x, 0, 0, 0, 3);
        line(x, 0, 0, 2, 1, -1, 1, 0);
    }

    private static void pointDropsWhatItDoesNotWaitFor() {
        RealmLogins x = Realm.peopled();
        Realm.askHome(x, 0, 0, 0, 7);
        x.sync(3);
        x.deliver(0);
        for (int i = 0; i < 9; i++) {
            x.copy(0);
        }
        int[] kinds = {Realm.ASK, Realm.CLOSE, Realm.CLOSED, 5, -1, MIN};
        for (int kind : kinds) {
            x.forge(0, 0, kind - x.field(0, 0));
            Realm.reseal(x, 0, Realm.KEYS[0], 7);
            CHECK.due("kind " + kind + " for an ASKING line", x.deliver(0), 0);
        }
        line(x, 0, 0, 1, 0, 0, -1, -1);
        CHECK.due("ACCEPT for an ASKING line", x.deliver(0), 1);
        CHECK.due("ACCEPT for an UP line", x.deliver(0), 0);
        line(x, 0, 0, 2, 1, -1, 0, 0);
        x.logout(0, 0, 7);
        x.lose(2);
        for (int kind : new int[] {Realm.ACCEPT, Realm.REJECT, Realm.ASK, Realm.CLOSE, 5}) {
            x.copy(0);
            int k = x.flight() - 1;
            x.forge(k, 0, kind - x.field(k, 0));
            x.forge(k, 1, 1);
            Realm.reseal(x, k, Realm.KEYS[0], 7);
            CHECK.due("kind " + kind + " for a CLOSING line", x.deliver(k), 0);
        }
        line(x, 0, 0, 3, 1, 1, 0, 0);
        x.forge(0, 0, Realm.CLOSED - x.field(0, 0));
        Realm.reseal(x, 0, Realm.KEYS[0], 7);
        x.copy(0);
        CHECK.due("an ID that no pending line has", x.deliver(0), 0);
        int k = x.flight() - 1;
        x.forge(k, 1, 1);
        Realm.reseal(x, k, Realm.KEYS[0], 7);
        CHECK.due("CLOSED for a CLOSING line", x.deliver(k), 1);
        line(x, 0, 0, 0, 1, -1, -1, -1);
    }

    private static void pointDropsWhatIsNotRight() {
        for (int f = 0; f < 6; f++) {
            RealmLogins x = Realm.peopled();
            Realm.askHome(x, 0, 0, 0, 7);
            x.sync(3);
            x.deliver(0);
            x.forge(0, f, 1);
            boolean looked = f != 2;
            CHECK.due("an answer with field " + f + " forged", x.deliver(0), looked ? 0 : 1);
            CHECK.due("the line", x.line(0, 0, 0), looked ? 1 : 2);
        }
        RealmLogins x = Realm.peopled();
        Realm.askHome(x, 0, 0, 0, 7);
        x.sync(3);
        x.deliver(0);
        Realm.reseal(x, 0, Realm.KEYS[0], 8);
        CHECK.due("sealed for another AUTH", x.deliver(0), 0);
    }

    private static void acceptTakesAnyInts() {
        RealmLogins x = Realm.peopled();
        Realm.askHome(x, 0, 0, 0, 7);
        x.sync(3);
        x.deliver(0);
        x.forge(0, 3, MIN);
        x.forge(0, 4, MAX);
        Realm.reseal(x, 0, Realm.KEYS[0], 7);
        CHECK.due("ACCEPT", x.deliver(0), 1);
        line(x, 0, 0, 2, 1, -1, MIN, MAX);
        x.logout(0, 0, 8);
        CHECK.same("CLOSE", Realm.parts(x, 0),
                Realm.datagram(0, 2, Realm.KEYS[0], Realm.CLOSE, 1, 8, 0, MIN));
    }

    private static void tickSendsThreeTimesInAll() {
        RealmLogins x = Realm.keyed();
        x.login(0, 0, 5, 6, 7);
        String ask = Realm.parts(x, 0);
        CHECK.due("tick(4)", x.tick(4), 0);
        CHECK.due("the fifth", x.tick(1), 1);
        CHECK.due("tick(4)", x.tick(4), 0);
        CHECK.due("the tenth", x.tick(1), 1);
        CHECK.due("flight", x.flight(), 3);
        CHECK.same("sent again", Realm.parts(x, 1), ask);
        CHECK.same("sent again", Realm.parts(x, 2), ask);
        CHECK.due("tick(4)", x.tick(4), 0);
        line(x, 0, 0, 1, 0, 0, -1, -1);
        CHECK.due("the fifteenth", x.tick(1), 0);
        line(x, 0, 0, 0, 3, -1, -1, -1);
        CHECK.due("flight", x.flight(), 3);
        CHECK.due("a new login sends three times too", x.login(0, 0, 5, 6, 7), 1);
        CHECK.due("tick(10)", x.tick(10), 2);
        line(x, 0, 0, 1, 0, 1, -1, -1);
        CHECK.due("tick(10)", x.tick(10), 0);
        line(x, 0, 0, 0, 3, -1, -1, -1);
    }

    private static void tickCountsFromTheLatestSending() {
        RealmLogins x = Realm.keyed();
        x.tick(3);
        x.login(0, 0, 5, 6, 7);
        x.tick(2);
        x.login(0, 1, 5, 6, 8);
        CHECK.due("tick(2)", x.tick(2), 0);
        CHECK.due("line 0", x.tick(1), 1);
        CHECK.due("ID of line 0", x.field(2, 1), 0);
        CHECK.due("tick(1)", x.tick(1), 0);
        CHECK.due("line 1", x.tick(1), 1);
        CHECK.due("ID of line 1", x.field(3, 1), 1);
    }

    private static void tickGivesUpOfClosing() {
        RealmLogins x = Realm.peopled();
        Realm.letIn(x, 1, 1, 6, 7);
        x.tick(10);
        x.logout(1, 1, 8);
        String close = Realm.parts(x, 0);
        CHECK.due("tick(10)", x.tick(10), 2);
        CHECK.same("sent again", Realm.parts(x, 2), close);
        line(x, 1, 1, 3, 1, 1, 0, 0);
        CHECK.due("tick(5)", x.tick(5), 0);
        line(x, 1, 1, 0, 1, -1, -1, -1);
        CHECK.due("the session is open still", x.holder(3, 0), 6);
    }

    private static void tickGoesThroughPointsAndLinesInOrder() {
        RealmLogins x = Realm.keyed();
        for (int line = 3; line >= 0; line--) {
            x.login(1, line, 0, 0, 10 + line);
            x.login(0, line, 0, 0, line);
        }
        CHECK.due("all send", x.tick(5), 8);
        for (int i = 0; i < 8; i++) {
            CHECK.due("sender", x.field(8 + i, 6), i / 4);
            CHECK.due("AUTH", x.field(8 + i, 2), i / 4 * 10 + i % 4);
        }
    }

    private static void tickCountsWhatIsLost() {
        RealmLogins x = Realm.keyed();
        for (int line = 0; line < 4; line++) {
            x.login(0, line, 0, 0, line);
            x.login(1, line, 0, 0, line);
        }
        for (int i = 0; i < 15; i++) {
            x.copy(0);
        }
        CHECK.due("one finds a place", x.tick(5), 8);
        CHECK.due("flight", x.flight(), 24);
        CHECK.due("the last is line 0 of point 0", x.field(23, 2), 0);
        CHECK.due("what was lost was a sending", x.tick(5), 8);
        x.lose(0);
        CHECK.due("no more than three", x.tick(5), 0);
        CHECK.due("flight", x.flight(), 23);
        line(x, 1, 3, 0, 3, -1, -1, -1);
    }

    private static void tickRefusesWrongInputs() {
        RealmLogins x = Realm.keyed();
        x.login(0, 0, 5, 6, 7);
        x.tick(4);
        String before = Realm.look(x);
        for (int wrong : new int[] {0, -1, 11, MIN, MAX}) {
            CHECK.due("tick(" + wrong + ")", x.tick(wrong), -1);
        }
        CHECK.same("after refused ticks", Realm.look(x), before);
        CHECK.due("the clock did not grow", x.tick(1), 1);
        CHECK.due("the clock did not grow", x.tick(4), 0);
    }

    private static void tickLeavesLinesThatAreNotPending() {
        RealmLogins x = Realm.peopled();
        Realm.letIn(x, 0, 0, 0, 1);
        String before = Realm.look(x);
        CHECK.due("tick(10)", x.tick(10), 0);
        CHECK.due("tick(10)", x.tick(10), 0);
        CHECK.same("after ticks", Realm.look(x), before);
    }

    private static void crashOfAPoint() {
        RealmLogins x = Realm.peopled();
        Realm.letIn(x, 0, 0, 0, 1);
        Realm.letIn(x, 0, 1, 2, 1);
        Realm.askHome(x, 1, 0, 6, 9);
        x.logout(0, 1, 5);
        x.login(0, 2, 4, 1004, 6);
        CHECK.due("crash", x.crash(0), true);
        for (int line = 0; line < 4; line++) {
            line(x, 0, line, 0, 0, -1, -1, -1);
        }
        CHECK.due("the other point stays", x.line(1, 0, 0), 1);
        CHECK.due("what flies stays", x.field(0, 6), 0);
        CHECK.due("sessions stay", x.holder(3, 0), 0);
        CHECK.due("sessions stay", x.holder(3, 1), 2);
        CHECK.due("as if no ID was given out", x.login(0, 3, 4, 1004, 6), 0);
        CHECK.due("only pending lines send", x.tick(5), 2);
        CHECK.due("crash", x.crash(1), true);
        line(x, 1, 0, 0, 0, -1, -1, -1);
        line(x, 0, 3, 1, 0, 0, -1, -1);
        String before = Realm.look(x);
        for (int wrong : new int[] {-1, 5, MIN, MAX}) {
            CHECK.due("crash(" + wrong + ")", x.crash(wrong), false);
        }
        CHECK.same("after refused crashes", Realm.look(x), before);
    }

    private static void lineRefusesWrongInputs() {
        RealmLogins x = Realm.peopled();
        Realm.letIn(x, 0, 0, 0, 1);
        for (int wrong : new int[] {-1, 2, 3, 4, MIN, MAX}) {
            CHECK.due("line of point " + wrong, x.line(wrong, 0, 0), -1);
        }
        for (int wrong : new int[] {-1, 4, MIN, MAX}) {
            CHECK.due("line " + wrong, x.line(0, wrong, 0), -1);
        }
        for (int wrong : new int[] {-1, 5, MIN, MAX}) {
            CHECK.due("line, which " + wrong, x.line(0, 0, wrong), -1);
        }
    }

    private static void line(RealmLogins x, int point, int line, int... due) {
        for (int which = 0; which < 5; which++) {
            String call = "line(" + point + ", " + line + ", " + which + ")";
            CHECK.due(call, x.line(point, line, which), due[which]);
        }
    }
}
