/** Promise 1: a new object. */
public final class Edges01NewObjectTest {
    private static final Check CHECK = new Check("Edges01NewObjectTest");

    public static void main(String[] args) {
        noUserIsEnrolled();
        nothingIsInFlight();
        linesAndHomesAreAsAtTheBeginning();
        pointsAndRelayAreAsAtTheBeginning();
        CHECK.end();
    }

    /** Passwords that a row of zeros or of NONEs would have are wrong too. */
    private static void noUserIsEnrolled() {
        CHECK.about("No user is enrolled");
        for (int user = 0; user < 12; user++) {
            for (int password : new int[] {0, -1, user}) {
                RealmLogins x = new RealmLogins();
                x.login(0, 0, user, password, 1);
                x.deliver(0);
                x.deliver(0);
                x.sync(3 + (user & 1));
                CHECK.due("KIND for user " + user, x.field(0, 0), Realm.REJECT);
                CHECK.due("A for user " + user, x.field(0, 3), 1);
            }
        }
    }

    private static void nothingIsInFlight() {
        CHECK.about("nothing is in flight");
        RealmLogins x = new RealmLogins();
        CHECK.due("flight", x.flight(), 0);
        for (int f = 0; f < 8; f++) {
            CHECK.due("field(0, " + f + ")", x.field(0, f), -1);
        }
        CHECK.due("deliver(0)", x.deliver(0), -1);
        CHECK.due("lose(0)", x.lose(0), false);
        CHECK.due("copy(0)", x.copy(0), false);
        CHECK.due("forge(0, 0, 0)", x.forge(0, 0, 0), false);
        CHECK.due("tick(10)", x.tick(10), 0);
        CHECK.due("sync(3)", x.sync(3), 0);
        CHECK.due("sync(4)", x.sync(4), 0);
        CHECK.due("flight", x.flight(), 0);
    }

    private static void linesAndHomesAreAsAtTheBeginning() {
        CHECK.about("all is as said for the beginning", "lines and homes");
        RealmLogins x = new RealmLogins();
        for (int i = 0; i < 8; i++) {
            int[] due = {0, 0, -1, -1, -1};
            for (int which = 0; which < 5; which++) {
                CHECK.due("line", x.line(i / 4, i % 4, which), due[which]);
            }
            CHECK.due("logout", x.logout(i / 4, i % 4, 0), -1);
        }
        for (int home = 3; home <= 4; home++) {
            for (int address = 0; address < 6; address++) {
                CHECK.due("holder", x.holder(home, address), -1);
                CHECK.due("evict", x.evict(home, address), false);
            }
            for (int which = 0; which < 3; which++) {
                CHECK.due("journal", x.journal(home, which), 0);
            }
        }
    }

    /** Made after another object that has come far, so that nothing is shared. */
    private static void pointsAndRelayAreAsAtTheBeginning() {
        CHECK.about("all is as said for the beginning", "IDs, keys, entries");
        State.BUSY.make();
        State.FULL.make();
        RealmLogins x = new RealmLogins();
        CHECK.due("first ID of point 0", x.login(0, 0, 0, 0, 0), 0);
        CHECK.due("first ID of point 1", x.login(1, 0, 1, 0, 0), 0);
        CHECK.due("SEAL of key 0", x.field(0, 5), Edges.seal(0, 0, 0, 0, 0, Edges.mix(0, 0)));
        CHECK.due("relay", x.deliver(1), 1);
        CHECK.due("first entry", x.field(1, 1), 0);
        CHECK.due("its own auth", x.field(1, 2), Edges.mix(0, 0));
        CHECK.due("SEAL of key 0", x.field(1, 5), Edges.seal(0, 0, 0, Edges.mix(0, 0), 1,
                Edges.mix(0, Edges.mix(0, 0))));
        CHECK.due("relay", x.deliver(0), 1);
        CHECK.due("second entry", x.field(1, 1), 1);
        CHECK.due("its own auth", x.field(1, 2), Edges.mix(0, 1));
    }
}
