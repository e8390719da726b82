/** Promise 3: enrol. */
public final class Edges03EnrolTest {
    private static final Check CHECK = new Check("Edges03EnrolTest");

    public static void main(String[] args) {
        usersAre0To11AndLimits0To6();
        passwordIsAnyInt();
        insteadOfWhatWasBefore();
        openSessionsStay();
        falseForOtherUsers();
        falseForOtherLimits();
        refusedEnrolLeavesPasswordAndLimit();
        CHECK.end();
    }

    /** Both edges of both ranges, and all between. */
    private static void usersAre0To11AndLimits0To6() {
        CHECK.about("The user is enrolled at its home with this password (any int) and limit");
        for (int user = 0; user < 12; user++) {
            for (int limit = 0; limit <= 6; limit++) {
                RealmLogins x = Realm.keyed();
                CHECK.due("enrol(" + user + ", 5, " + limit + ")", x.enrol(user, 5, limit), true);
                CHECK.due("the limit of user " + user, sessionsLetIn(x, user, 5), limit);
            }
        }
    }

    /** How many ASKs of the user are accepted before one is rejected by the limit or for want of an address. */
    private static int sessionsLetIn(RealmLogins x, int user, int password) {
        Desk desk = new Desk(3 + (user & 1), x);
        int count = 0;
        for (int i = 0; i < 7; i++) {
            desk.ask(100 + i, user, password);
            count += desk.answer().startsWith("1: 1 ") ? 1 : 0;
        }
        return count;
    }

    private static void passwordIsAnyInt() {
        CHECK.about("with this password (any int)");
        for (int password : Edges.INTS) {
            for (int user : new int[] {0, 11}) {
                RealmLogins x = Realm.keyed();
                CHECK.due("enrol", x.enrol(user, password, 1), true);
                x.login(0, 0, user, password, 3);
                x.deliver(0);
                x.deliver(0);
                Realm.settle(x, 3 + (user & 1));
                CHECK.due("the password " + password, x.line(0, 0, 1), 1);
            }
        }
    }

    private static void insteadOfWhatWasBefore() {
        CHECK.about("instead of what was before");
        RealmLogins x = Realm.keyed();
        x.enrol(4, 5, 6);
        x.enrol(4, 6, 0);
        x.enrol(4, Edges.MIN, 2);
        CHECK.due("the last limit counts", sessionsLetIn(x, 4, Edges.MIN), 2);
        x = Realm.keyed();
        x.enrol(4, 5, 6);
        x.enrol(4, 6, 6);
        CHECK.due("the password of before", sessionsLetIn(x, 4, 5), 0);
        x = Realm.keyed();
        x.enrol(4, 5, 3);
        x.enrol(2, 6, 6);
        x.enrol(6, 6, 6);
        x.enrol(5, 6, 6);
        CHECK.due("the neighbours' do not count", sessionsLetIn(x, 4, 5), 3);
    }

    private static void openSessionsStay() {
        CHECK.about("open sessions stay");
        for (int limit = 0; limit <= 6; limit++) {
            Desk desk = new Desk(4);
            for (int i = 0; i < 6; i++) {
                desk.ask(i, 11);
            }
            String before = desk.held();
            CHECK.due("enrol", desk.x.enrol(11, 0, limit), true);
            CHECK.same("with six open, limit " + limit, desk.held(), before);
        }
    }

    private static void falseForOtherUsers() {
        CHECK.about("False when the user is not 0 .. 11");
        Refusals refusals = new Refusals(CHECK);
        for (int user : Edges.outside(0, 11)) {
            refusals.no("enrol(" + user + ", 1, 1)", x -> x.enrol(user, 1, 1));
            refusals.no("enrol(" + user + ", 1, 7)", x -> x.enrol(user, 1, 7));
        }
    }

    private static void falseForOtherLimits() {
        CHECK.about("False when .. the limit is not 0 .. 6");
        Refusals refusals = new Refusals(CHECK);
        for (int limit : Edges.outside(0, 6)) {
            refusals.no("enrol(0, 1, " + limit + ")", x -> x.enrol(0, 1, limit));
            refusals.no("enrol(11, 1, " + limit + ")", x -> x.enrol(11, 1, limit));
        }
    }

    private static void refusedEnrolLeavesPasswordAndLimit() {
        CHECK.about("False when the user is not 0 .. 11 or the limit is not 0 .. 6", "it changes nothing");
        for (int user = 0; user < 12; user++) {
            for (int limit : Edges.outside(0, 6)) {
                RealmLogins x = Realm.keyed();
                x.enrol(user, 5, 3);
                CHECK.due("enrol", x.enrol(user, 6, limit), false);
                CHECK.due("user " + user + " as before", sessionsLetIn(x, user, 5), 3);
                RealmLogins y = Realm.keyed();
                CHECK.due("enrol", y.enrol(user, 6, limit), false);
                CHECK.due("user " + user + " is not enrolled", sessionsLetIn(y, user, 6), 0);
            }
        }
        for (int wrong : Edges.outside(0, 11)) {
            RealmLogins x = Realm.keyed();
            CHECK.due("enrol", x.enrol(wrong, 6, 6), false);
            CHECK.due("user 0 is not enrolled", sessionsLetIn(x, 0, 6), 0);
            RealmLogins y = Realm.keyed();
            CHECK.due("enrol", y.enrol(wrong, 6, 6), false);
            CHECK.due("user 11 is not enrolled", sessionsLetIn(y, 11, 6), 0);
        }
    }
}
