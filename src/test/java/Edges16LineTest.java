/** Promise 16: line. */
public final class Edges16LineTest {
    private static final Check CHECK = new Check("Edges16LineTest");
    private static final Refusals REFUSALS = new Refusals(CHECK);

    public static void main(String[] args) {
        ofEveryKind();
        idsAre0To7();
        oldSessionIsNotTold();
        everyLineIsTold();
        noneForOtherPoints();
        noneForOtherLines();
        noneForOtherWhich();
        CHECK.end();
    }

    private static void line(RealmLogins x, String what, int... due) {
        for (int which = 0; which < 5; which++) {
            CHECK.due(what + ", which " + which, x.line(0, 0, which), due[which]);
        }
    }

    private static void ofEveryKind() {
        CHECK.about("0 what it is (0 IDLE, 1 ASKING, 2 UP, 3 CLOSING), 1 its verdict, "
                + "2 its ID (NONE when it is not pending), "
                + "3 its session and 4 its address (NONE when it is IDLE or ASKING)");
        RealmLogins x = Realm.peopled();
        Realm.letIn(x, 0, 1, 2, 1);
        Realm.letIn(x, 0, 2, 4, 2);
        line(x, "IDLE at first", 0, 0, -1, -1, -1);
        x.login(0, 0, 0, 1000, 3);
        line(x, "ASKING", 1, 0, 2, -1, -1);
        x.deliver(0);
        x.deliver(0);
        Realm.settle(x, 3);
        line(x, "UP", 2, 1, -1, 2, 2);
        x.logout(0, 0, 4);
        line(x, "CLOSING", 3, 1, 3, 2, 2);
        x.deliver(0);
        x.deliver(0);
        Realm.settle(x, 3);
        line(x, "IDLE after CLOSED", 0, 1, -1, -1, -1);
        x.login(0, 0, 0, 0, 5);
        line(x, "ASKING", 1, 0, 4, -1, -1);
        x.deliver(0);
        x.deliver(0);
        Realm.settle(x, 3);
        line(x, "IDLE after REJECT", 0, 2, -1, -1, -1);
        x.login(0, 0, 0, 0, 6);
        x.tick(10);
        x.tick(5);
        line(x, "IDLE without an answer", 0, 3, -1, -1, -1);
        x.crash(0);
        line(x, "IDLE after a crash", 0, 0, -1, -1, -1);
    }

    private static void idsAre0To7() {
        CHECK.about("2 its ID");
        RealmLogins x = Realm.keyed();
        for (int i = 0; i < 10; i++) {
            x.login(0, 0, 0, 0, i);
            CHECK.due("ID", x.line(0, 0, 2), i % 8);
            x.deliver(0);
            x.deliver(0);
            Realm.settle(x, 3);
            CHECK.due("no ID", x.line(0, 0, 2), -1);
        }
    }

    private static void oldSessionIsNotTold() {
        CHECK.about("3 its session and 4 its address (NONE when it is IDLE or ASKING)");
        for (int v : Edges.INTS) {
            RealmLogins x = Realm.answerToPoint();
            x.forge(0, 3, v);
            x.forge(0, 4, ~v);
            Realm.reseal(x, 0, Realm.KEYS[0], 7);
            x.deliver(0);
            line(x, "UP", 2, 1, -1, v, ~v);
            x.logout(0, 0, 8);
            line(x, "CLOSING", 3, 1, 1, v, ~v);
            x.tick(10);
            x.tick(5);
            line(x, "IDLE", 0, 1, -1, -1, -1);
            x.login(0, 0, 0, 0, 0);
            line(x, "ASKING", 1, 0, 2, -1, -1);
        }
    }

    private static void everyLineIsTold() {
        CHECK.about("Of a line");
        for (int i = 0; i < 8; i++) {
            RealmLogins x = Realm.peopled();
            x.login(i / 4, i % 4, 0, 1000, 1);
            for (int j = 0; j < 8; j++) {
                CHECK.due("line " + j, x.line(j / 4, j % 4, 0), j == i ? 1 : 0);
            }
        }
    }

    private static void noneForOtherPoints() {
        CHECK.about("NONE when there is no such point");
        for (int point : Edges.outside(0, 1)) {
            REFUSALS.none("line(" + point + ", 0, 0)", x -> x.line(point, 0, 0));
            REFUSALS.none("line(" + point + ", 3, 4)", x -> x.line(point, 3, 4));
        }
        REFUSALS.none("line(3, 0, 0)", x -> x.line(3, 0, 0));
        REFUSALS.none("line(4, 0, 0)", x -> x.line(4, 0, 0));
    }

    private static void noneForOtherLines() {
        CHECK.about("NONE when there is no such .. line");
        for (int line : Edges.outside(0, 3)) {
            REFUSALS.none("line(0, " + line + ", 0)", x -> x.line(0, line, 0));
            REFUSALS.none("line(1, " + line + ", 1)", x -> x.line(1, line, 1));
        }
    }

    private static void noneForOtherWhich() {
        CHECK.about("NONE when .. which is not 0 .. 4");
        for (int which : Edges.outside(0, 4)) {
            for (int i = 0; i < 8; i++) {
                int point = i / 4;
                int line = i % 4;
                REFUSALS.none("line(" + point + ", " + line + ", " + which + ")", x -> x.line(point, line, which));
            }
        }
    }
}
