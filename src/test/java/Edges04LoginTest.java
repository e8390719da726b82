/** Promise 4: login. */
public final class Edges04LoginTest {
    private static final Check CHECK = new Check("Edges04LoginTest");
    private static final Refusals REFUSALS = new Refusals(CHECK);

    public static void main(String[] args) {
        everyLineAndUser();
        anyPasswordAndDraw();
        verdictBecomes0();
        sendsForTheFirstTime();
        noneForOtherPoints();
        noneForOtherLines();
        noneForOtherUsers();
        noneWhenTheLineIsNotIdle();
        CHECK.end();
    }

    private static void everyLineAndUser() {
        CHECK.about("The line becomes ASKING for the user with this password and the AUTH draw (any ints), "
                + "gets a new ID");
        for (int point = 0; point < 2; point++) {
            for (int line = 0; line < 4; line++) {
                for (int user : new int[] {0, 1, 10, 11}) {
                    RealmLogins x = Realm.keyed();
                    CHECK.due("login", x.login(point, line, user, 5, 6), 0);
                    for (int i = 0; i < 8; i++) {
                        boolean it = i == 4 * point + line;
                        CHECK.due("what it is", x.line(i / 4, i % 4, 0), it ? 1 : 0);
                        CHECK.due("its ID", x.line(i / 4, i % 4, 2), it ? 0 : -1);
                    }
                    CHECK.due("A", x.field(0, 3), user);
                }
            }
        }
    }

    private static void anyPasswordAndDraw() {
        CHECK.about("with this password and the AUTH draw (any ints)");
        for (int password : Edges.INTS) {
            for (int draw : Edges.INTS) {
                RealmLogins x = Realm.keyed();
                x.enrol(11, password, 1);
                CHECK.due("login", x.login(1, 3, 11, password, draw), 0);
                CHECK.due("AUTH", x.field(0, 2), draw);
                x.deliver(0);
                x.deliver(0);
                Realm.settle(x, 4);
                CHECK.due("password " + password + ", draw " + draw + ": let in", x.line(1, 3, 1), 1);
            }
        }
    }

    private static void verdictBecomes0() {
        CHECK.about("its verdict becomes 0");
        RealmLogins x = Realm.peopled();
        Realm.letIn(x, 0, 0, 0, 1);
        Realm.letOut(x, 0, 0, 3, 2);
        verdicts(x, 1);
        x.deliver(0);
        x.deliver(0);
        Realm.settle(x, 3);
        verdicts(x, 2);
        x.tick(10);
        x.tick(5);
        verdicts(x, 3);
        x.crash(0);
        verdicts(x, 0);
    }

    private static void verdicts(RealmLogins x, int before) {
        CHECK.due("IDLE", x.line(0, 0, 0), 0);
        CHECK.due("before", x.line(0, 0, 1), before);
        x.login(0, 0, 0, 1, 5);
        CHECK.due("after", x.line(0, 0, 1), 0);
    }

    private static void sendsForTheFirstTime() {
        CHECK.about("it sends for the first time");
        RealmLogins x = Realm.keyed();
        for (int time = 0; time < 2; time++) {
            x.login(0, 0, 0, 1, 5);
            CHECK.due("one is sent", x.flight(), 3 * time + 1);
            CHECK.due("two times more", x.tick(10), 2);
            CHECK.due("no more", x.tick(5), 0);
            CHECK.due("no answer", x.line(0, 0, 1), 3);
        }
    }

    private static void noneForOtherPoints() {
        CHECK.about("NONE when there is no such point");
        for (int point : Edges.outside(0, 1)) {
            REFUSALS.none("login of point " + point, x -> x.login(point, 3, 0, 1000, 1));
        }
        REFUSALS.none("login of home 3", x -> x.login(3, 3, 0, 1000, 1));
        REFUSALS.none("login of home 4", x -> x.login(4, 3, 0, 1000, 1));
    }

    private static void noneForOtherLines() {
        CHECK.about("NONE when there is no such .. line");
        for (int line : Edges.outside(0, 3)) {
            REFUSALS.none("login of line " + line, x -> x.login(0, line, 0, 1000, 1));
            REFUSALS.none("login of line " + line, x -> x.login(1, line, 0, 1000, 1));
        }
    }

    private static void noneForOtherUsers() {
        CHECK.about("NONE when .. the user is not 0 .. 11");
        for (int user : Edges.outside(0, 11)) {
            REFUSALS.none("login of user " + user, x -> x.login(0, 3, user, 1000, 1));
            REFUSALS.none("login of user " + user, x -> x.login(1, 2, user, 1000, 1));
        }
    }

    private static void noneWhenTheLineIsNotIdle() {
        CHECK.about("NONE when .. the line is not IDLE");
        REFUSALS.noneIn(State.BUSY, "login of an UP line", x -> x.login(0, 0, 1, 5, 6));
        REFUSALS.noneIn(State.BUSY, "login of an ASKING line", x -> x.login(0, 1, 1, 5, 6));
        REFUSALS.noneIn(State.BUSY, "login of a CLOSING line", x -> x.login(0, 2, 1, 5, 6));
        REFUSALS.noneIn(State.BUSY, "login of an UP line", x -> x.login(1, 0, 1, 5, 6));
        for (int i = 0; i < 8; i++) {
            int point = i / 4;
            int line = i % 4;
            REFUSALS.noneIn(State.FULL, "login of an ASKING line", x -> x.login(point, line, 1, 5, 6));
        }
    }
}
