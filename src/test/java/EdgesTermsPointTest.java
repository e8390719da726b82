/** Terms: a POINT and its lines, new IDs, what a pending line sends, what a point takes. */
public final class EdgesTermsPointTest {
    private static final Check CHECK = new Check("EdgesTermsPointTest");
    private static final int MIN = Edges.MIN;
    private static final int MAX = Edges.MAX;

    public static void main(String[] args) {
        linesAre0To3();
        linesAreIdleAtFirst();
        newIdIsZeroWhenNoneWasGivenOut();
        newIdBehind7Is0();
        newIdPassesThoseOfPendingLines();
        newIdPassesThoseOfPendingLinesBehind7();
        idOfALineThatIsNotPendingIsFree();
        pendingLineSendsAnyInts();
        datagramForNoPendingLineIsDropped();
        datagramWithAnotherIdIsDropped();
        acceptTakesAnyInts();
        rejectMakesIdle();
        closedLeavesTheVerdict();
        CHECK.end();
    }

    private static void linesAre0To3() {
        CHECK.about("A POINT has four LINES 0 .. 3.");
        for (int point = 0; point < 2; point++) {
            RealmLogins x = Realm.keyed();
            for (int line = 0; line < 4; line++) {
                CHECK.due("login of line " + line, x.login(point, line, 0, 0, line), line);
                CHECK.due("line " + line, x.line(point, line, 0), 1);
                CHECK.due("line " + line + " of the other point", x.line(1 - point, line, 0), 0);
            }
            for (int line : Edges.outside(0, 3)) {
                CHECK.due("login of line " + line, x.login(point, line, 0, 0, 0), -1);
                CHECK.due("line " + line, x.line(point, line, 0), -1);
            }
        }
    }

    private static void linesAreIdleAtFirst() {
        CHECK.about("At first it is IDLE with the verdict 0.");
        RealmLogins x = new RealmLogins();
        for (int i = 0; i < 8; i++) {
            CHECK.due("what it is", x.line(i / 4, i % 4, 0), 0);
            CHECK.due("its verdict", x.line(i / 4, i % 4, 1), 0);
        }
    }

    private static void newIdIsZeroWhenNoneWasGivenOut() {
        CHECK.about("A NEW ID is the first one .. from 0 when none was given out.");
        for (int line = 0; line < 4; line++) {
            RealmLogins x = Realm.keyed();
            CHECK.due("the first ID of point 0", x.login(0, line, 0, 0, 0), 0);
            CHECK.due("the first ID of point 1", x.login(1, line, 0, 0, 0), 0);
            CHECK.due("the second ID of point 1", x.login(1, 3 - line, 0, 0, 0), line == 3 - line ? -1 : 1);
        }
    }

    private static void newIdBehind7Is0() {
        CHECK.about("looked for from the one behind the ID that the point gave out last (0 is behind 7)");
        RealmLogins x = Realm.keyed();
        for (int i = 0; i < 20; i++) {
            CHECK.due("ID " + i, x.login(1, 2, 0, 0, i), i % 8);
            turnAway(x, 0);
        }
    }

    /** The ASK at place k, of a user that home 3 does not know, and its REJECT go their way. */
    private static void turnAway(RealmLogins x, int k) {
        int last = x.flight() - 1;
        x.deliver(k);
        x.deliver(last);
        x.sync(3);
        x.deliver(last);
        x.deliver(last);
    }

    private static void newIdPassesThoseOfPendingLines() {
        CHECK.about("A NEW ID is the first one that no pending line of the point has");
        RealmLogins x = Realm.keyed();
        CHECK.due("line 0", x.login(0, 0, 0, 0, 1), 0);
        CHECK.due("line 1", x.login(0, 1, 0, 0, 2), 1);
        CHECK.due("line 2", x.login(0, 2, 0, 0, 3), 2);
        for (int id = 3; id < 8; id++) {
            CHECK.due("line 3", x.login(0, 3, 0, 0, 4), id);
            turnAway(x, 3);
        }
        CHECK.due("0, 1 and 2 are taken", x.login(0, 3, 0, 0, 5), 3);
        turnAway(x, 3);
        turnAway(x, 1);
        CHECK.due("4 is behind 3, though 1 is free again", x.login(0, 1, 0, 0, 6), 4);
    }

    private static void newIdPassesThoseOfPendingLinesBehind7() {
        CHECK.about("A NEW ID is the first one that no pending line of the point has .. (0 is behind 7)");
        RealmLogins x = Realm.keyed();
        for (int id = 0; id < 6; id++) {
            CHECK.due("line 3", x.login(0, 3, 0, 0, 1), id);
            turnAway(x, 0);
        }
        CHECK.due("line 0", x.login(0, 0, 0, 0, 2), 6);
        CHECK.due("line 1", x.login(0, 1, 0, 0, 3), 7);
        CHECK.due("line 2", x.login(0, 2, 0, 0, 4), 0);
        for (int id = 1; id < 6; id++) {
            CHECK.due("line 3", x.login(0, 3, 0, 0, 5), id);
            turnAway(x, 3);
        }
        CHECK.due("6, 7 and 0 are taken", x.login(0, 3, 0, 0, 6), 1);
        CHECK.due("the other point has IDs of its own", x.login(1, 3, 0, 0, 7), 0);
    }

    private static void idOfALineThatIsNotPendingIsFree() {
        CHECK.about("An ASKING or CLOSING line is PENDING: it has an ID 0 .. 7");
        RealmLogins x = Realm.peopled();
        Realm.letIn(x, 0, 0, 0, 1);
        CHECK.due("an UP line has no ID", x.line(0, 0, 2), -1);
        for (int id = 1; id < 8; id++) {
            CHECK.due("line 1", x.login(0, 1, 2, 0, id), id);
            turnAway(x, 0);
        }
        CHECK.due("0 is free, since line 0 is UP", x.login(0, 1, 2, 0, 8), 0);
        turnAway(x, 0);
        CHECK.due("a CLOSING line has an ID", x.logout(0, 0, 9), 1);
        x.lose(0);
        for (int id = 2; id < 9; id++) {
            CHECK.due("line 1", x.login(0, 1, 2, 0, id), id % 8);
            turnAway(x, 0);
        }
        CHECK.due("1 is taken, since line 0 is CLOSING", x.login(0, 1, 2, 0, 9), 2);
    }

    private static void pendingLineSendsAnyInts() {
        CHECK.about("when it is ASKING, an ASK with its ID and AUTH, A the user and B the password ^ MIX(key, AUTH)");
        int key = Realm.KEYS[1];
        for (int password : Edges.INTS) {
            for (int auth : Edges.INTS) {
                RealmLogins x = Realm.keyed();
                x.login(1, 0, 11, password, auth);
                CHECK.same("ASK", Realm.parts(x, 0),
                        Realm.datagram(1, 2, key, Realm.ASK, 0, auth, 11, password ^ Edges.mix(key, auth)));
            }
        }
        CHECK.about("when it is CLOSING, a CLOSE with its ID and AUTH, A the user and B its session");
        for (int session : Edges.INTS) {
            RealmLogins x = up(session, 0);
            x.logout(0, 0, session);
            CHECK.same("CLOSE", Realm.parts(x, 0),
                    Realm.datagram(0, 2, Realm.KEYS[0], Realm.CLOSE, 1, session, 0, session));
        }
    }

    /** Line 0 of point 0 is UP by an ACCEPT with this A and B; nothing is in flight. */
    private static RealmLogins up(int a, int b) {
        RealmLogins x = Realm.answerToPoint();
        x.forge(0, 3, a);
        x.forge(0, 4, b);
        Realm.reseal(x, 0, Realm.KEYS[0], 7);
        CHECK.due("ACCEPT", x.deliver(0), 1);
        return x;
    }

    private static void datagramForNoPendingLineIsDropped() {
        CHECK.about("A datagram that comes to a point is taken when a pending line has its ID");
        RealmLogins x = Realm.answerToPoint();
        x.copy(0);
        x.copy(0);
        x.copy(0);
        x.copy(0);
        x.deliver(0);
        CHECK.due("an UP line", x.deliver(0), 0);
        x.logout(0, 0, 7);
        x.deliver(3);
        x.deliver(3);
        x.sync(3);
        x.deliver(3);
        x.copy(3);
        CHECK.due("CLOSED", x.deliver(3), 1);
        CHECK.due("CLOSED of an IDLE line", x.deliver(3), 0);
        CHECK.due("ACCEPT of an IDLE line", x.deliver(0), 0);
        CHECK.due("it is IDLE", x.line(0, 0, 0), 0);
        CHECK.due("its verdict", x.line(0, 0, 1), 1);
        x.crash(0);
        CHECK.due("ACCEPT after a crash", x.deliver(0), 0);
        CHECK.due("its verdict", x.line(0, 0, 1), 0);
    }

    private static void datagramWithAnotherIdIsDropped() {
        CHECK.about("A datagram that comes to a point is taken when a pending line has its ID");
        for (int id : Edges.outside(0, 7)) {
            RealmLogins x = Realm.answerToPoint();
            x.forge(0, 1, id);
            Realm.reseal(x, 0, Realm.KEYS[0], 7);
            CHECK.due("ID " + id, x.deliver(0), 0);
            CHECK.due("the line is ASKING still", x.line(0, 0, 0), 1);
        }
        for (int id = 0; id < 8; id++) {
            RealmLogins x = Realm.answerToPoint();
            x.login(0, 3, 0, 0, 7);
            x.forge(0, 1, id);
            Realm.reseal(x, 0, Realm.KEYS[0], 7);
            CHECK.due("ID " + id + ", lines with 0 and 1", x.deliver(0), id < 2 ? 1 : 0);
            CHECK.due("line 0", x.line(0, 0, 0), id == 0 ? 2 : 1);
            CHECK.due("line 3", x.line(0, 3, 0), id == 1 ? 2 : 1);
        }
    }

    private static void acceptTakesAnyInts() {
        CHECK.about("ACCEPT: the line becomes UP with the verdict 1; its session is A and its address is B.");
        for (int a : Edges.INTS) {
            for (int b : Edges.INTS) {
                RealmLogins x = up(a, b);
                int[] due = {2, 1, -1, a, b};
                for (int which = 0; which < 5; which++) {
                    CHECK.due("line, which " + which, x.line(0, 0, which), due[which]);
                }
            }
        }
    }

    private static void rejectMakesIdle() {
        CHECK.about("REJECT: it becomes IDLE with the verdict 2.");
        for (int a : new int[] {MIN, -1, 0, 1, 2, 3, 4, MAX}) {
            RealmLogins x = Realm.answerToPoint();
            x.forge(0, 0, Realm.REJECT - Realm.ACCEPT);
            x.forge(0, 3, a);
            x.forge(0, 4, a);
            Realm.reseal(x, 0, Realm.KEYS[0], 7);
            CHECK.due("REJECT with A " + a, x.deliver(0), 1);
            int[] due = {0, 2, -1, -1, -1};
            for (int which = 0; which < 5; which++) {
                CHECK.due("line, which " + which, x.line(0, 0, which), due[which]);
            }
        }
    }

    private static void closedLeavesTheVerdict() {
        CHECK.about("CLOSED: it becomes IDLE, and its verdict stays.");
        RealmLogins x = Realm.answerToClosing();
        x.forge(0, 3, MIN);
        x.forge(0, 4, MAX);
        Realm.reseal(x, 0, Realm.KEYS[0], 8);
        CHECK.due("CLOSED with any A and B", x.deliver(0), 1);
        int[] due = {0, 1, -1, -1, -1};
        for (int which = 0; which < 5; which++) {
            CHECK.due("line, which " + which, x.line(0, 0, which), due[which]);
        }
    }
}
