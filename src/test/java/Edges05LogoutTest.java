/** Promise 5: logout. */
public final class Edges05LogoutTest {
    private static final Check CHECK = new Check("Edges05LogoutTest");
    private static final Refusals REFUSALS = new Refusals(CHECK);

    public static void main(String[] args) {
        everyLine();
        anyDraw();
        idBehind7();
        sendsForTheFirstTime();
        userSessionAndAddressStay();
        noneForOtherPoints();
        noneForOtherLines();
        noneWhenTheLineIsNotUp();
        CHECK.end();
    }

    private static void everyLine() {
        CHECK.about("The line becomes CLOSING with the AUTH draw, gets a new ID and sends for the first time");
        for (int point = 0; point < 2; point++) {
            for (int line = 0; line < 4; line++) {
                RealmLogins x = Realm.peopled();
                Realm.letIn(x, point, line, 10, 1);
                CHECK.due("logout", x.logout(point, line, 2), 1);
                for (int i = 0; i < 8; i++) {
                    boolean it = i == 4 * point + line;
                    CHECK.due("what it is", x.line(i / 4, i % 4, 0), it ? 3 : 0);
                    CHECK.due("its ID", x.line(i / 4, i % 4, 2), it ? 1 : -1);
                }
                CHECK.same("CLOSE", Realm.parts(x, 0),
                        Realm.datagram(point, 2, Realm.KEYS[point], Realm.CLOSE, 1, 2, 10, 0));
            }
        }
    }

    private static void anyDraw() {
        CHECK.about("with the AUTH draw");
        for (int draw : Edges.INTS) {
            RealmLogins x = Realm.peopled();
            Realm.letIn(x, 0, 0, 0, draw);
            CHECK.due("logout", x.logout(0, 0, draw), 1);
            CHECK.due("AUTH", x.field(0, 2), draw);
            x.deliver(0);
            x.deliver(0);
            Realm.settle(x, 3);
            CHECK.due("IDLE", x.line(0, 0, 0), 0);
            CHECK.due("counted", x.journal(3, 2), 1);
        }
    }

    private static void idBehind7() {
        CHECK.about("gets a new ID");
        RealmLogins x = Realm.peopled();
        for (int i = 0; i < 9; i++) {
            Realm.letIn(x, 0, 0, 0, 2 * i);
            CHECK.due("logout gives out the next", x.logout(0, 0, 2 * i + 1), (2 * i + 1) % 8);
            x.deliver(0);
            x.deliver(0);
            Realm.settle(x, 3);
        }
        x = Realm.peopled();
        Realm.letIn(x, 0, 0, 0, 1);
        CHECK.due("line 1 asks and goes on asking", x.login(0, 1, 0, 0, 2), 1);
        x.lose(0);
        for (int i = 0; i < 3; i++) {
            Realm.letIn(x, 0, 2, 1, 20 + i);
            Realm.letOut(x, 0, 2, 4, 30 + i);
        }
        Realm.letIn(x, 1, 2, 1, 40);
        CHECK.due("2 to 7 were given out: 0 is behind 7", x.logout(0, 0, 3), 0);
        CHECK.due("the other point has IDs of its own", x.logout(1, 2, 41), 1);
        x.lose(0);
        x.lose(0);
        Realm.letIn(x, 0, 3, 3, 42);
        CHECK.due("1 was taken, so 2 was given out: 3 is behind it", x.logout(0, 3, 43), 3);
    }

    private static void sendsForTheFirstTime() {
        CHECK.about("sends for the first time");
        RealmLogins x = Realm.peopled();
        x.login(0, 0, 0, 1000, 1);
        x.lose(0);
        x.tick(10);
        x.lose(0);
        x.deliver(0);
        x.deliver(0);
        Realm.settle(x, 3);
        CHECK.due("UP after three sendings", x.line(0, 0, 0), 2);
        x.tick(4);
        x.logout(0, 0, 2);
        CHECK.due("one is sent", x.flight(), 1);
        CHECK.due("not before the fifth tick", x.tick(4), 0);
        CHECK.due("the second time", x.tick(1), 1);
        CHECK.due("the third time", x.tick(5), 1);
        CHECK.due("no more", x.tick(5), 0);
        CHECK.due("IDLE", x.line(0, 0, 0), 0);
        CHECK.due("the verdict stays", x.line(0, 0, 1), 1);
    }

    private static void userSessionAndAddressStay() {
        CHECK.about("its user, session and address stay");
        for (int v : Edges.INTS) {
            RealmLogins x = Realm.answerToPoint();
            x.forge(0, 3, v);
            x.forge(0, 4, ~v);
            Realm.reseal(x, 0, Realm.KEYS[0], 7);
            x.deliver(0);
            x.logout(0, 0, 8);
            int[] due = {3, 1, 1, v, ~v};
            for (int which = 0; which < 5; which++) {
                CHECK.due("line, which " + which, x.line(0, 0, which), due[which]);
            }
            CHECK.due("A is the user", x.field(0, 3), 0);
            CHECK.due("B is the session", x.field(0, 4), v);
        }
    }

    private static void noneForOtherPoints() {
        CHECK.about("NONE when there is no such point");
        for (int point : Edges.outside(0, 1)) {
            REFUSALS.none("logout of point " + point, x -> x.logout(point, 0, 1));
        }
        REFUSALS.none("logout of home 3", x -> x.logout(3, 0, 1));
        REFUSALS.none("logout of home 4", x -> x.logout(4, 0, 1));
    }

    private static void noneForOtherLines() {
        CHECK.about("NONE when there is no such .. line");
        for (int line : Edges.outside(0, 3)) {
            REFUSALS.none("logout of line " + line, x -> x.logout(0, line, 1));
            REFUSALS.none("logout of line " + line, x -> x.logout(1, line, 1));
        }
    }

    private static void noneWhenTheLineIsNotUp() {
        CHECK.about("NONE when .. the line is not UP");
        REFUSALS.noneIn(State.BUSY, "logout of an ASKING line", x -> x.logout(0, 1, 5));
        REFUSALS.noneIn(State.BUSY, "logout of a CLOSING line", x -> x.logout(0, 2, 5));
        REFUSALS.noneIn(State.BUSY, "logout of an IDLE line that was turned away", x -> x.logout(0, 3, 5));
        REFUSALS.noneIn(State.BUSY, "logout of an IDLE line without an answer", x -> x.logout(1, 2, 5));
        REFUSALS.noneIn(State.BUSY, "logout of an IDLE line that was UP", x -> x.logout(1, 3, 5));
        for (int i = 0; i < 8; i++) {
            int point = i / 4;
            int line = i % 4;
            REFUSALS.noneIn(State.NEW, "logout of an IDLE line", x -> x.logout(point, line, 5));
            REFUSALS.noneIn(State.FULL, "logout of an ASKING line", x -> x.logout(point, line, 5));
        }
    }
}
