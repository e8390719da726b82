/** Terms: "A call that answers NONE or false changes nothing." What each promise refuses is in its own test. */
public final class EdgesTermsRefusedTest {
    private static final Check CHECK = new Check("EdgesTermsRefusedTest");

    public static void main(String[] args) {
        statesAreWhatTheySay();
        manyRefusedCallsChangeNothing();
        looksChangeNothing();
        CHECK.end();
    }

    private static void statesAreWhatTheySay() {
        CHECK.about("A call that answers NONE or false changes nothing.", "the state BUSY that it is looked at in");
        RealmLogins x = State.BUSY.make();
        int[] lines = {2, 1, 3, 0, 2, 1, 0, 0};
        int[] verdicts = {1, 0, 1, 2, 1, 0, 3, 1};
        for (int i = 0; i < 8; i++) {
            CHECK.due("line " + i, x.line(i / 4, i % 4, 0), lines[i]);
            CHECK.due("verdict " + i, x.line(i / 4, i % 4, 1), verdicts[i]);
        }
        int[] senders = {0, 2, 1, 2, 4, 2};
        int[] receivers = {2, 3, 2, 4, 2, 1};
        CHECK.due("flight", x.flight(), 6);
        for (int k = 0; k < 6; k++) {
            CHECK.due("sender", x.field(k, 6), senders[k]);
            CHECK.due("receiver", x.field(k, 7), receivers[k]);
        }
        journal(x, 3, 4, 3, 1);
        journal(x, 4, 5, 4, 1);

        CHECK.about("A call that answers NONE or false changes nothing.", "the state FULL that it is looked at in");
        x = State.FULL.make();
        CHECK.due("flight", x.flight(), 24);
        journal(x, 3, 40, 30, 0);
        for (int address = 0; address < 6; address++) {
            CHECK.due("holder", x.holder(3, address), 0);
        }
    }

    private static void journal(RealmLogins x, int home, int... due) {
        for (int which = 0; which < 3; which++) {
            CHECK.due("journal(" + home + ", " + which + ")", x.journal(home, which), due[which]);
        }
    }

    /** All kinds of refused calls, one behind the other, on one object. */
    private static void manyRefusedCallsChangeNothing() {
        CHECK.about("A call that answers NONE or false changes nothing.");
        new Refusals(CHECK).none("many refused calls", x -> {
            boolean done = x.key(4, 1, 1) | x.key(-1, 1, 1) | x.enrol(12, 1, 1) | x.enrol(0, 1, 7)
                    | x.enrol(1, 1, -1) | x.lose(24) | x.copy(24) | x.copy(-1) | x.forge(24, 0, 1)
                    | x.forge(0, 6, 1) | x.forge(0, -1, 1) | x.crash(5) | x.crash(-1) | x.evict(3, 6)
                    | x.evict(2, 0) | x.evict(5, 0);
            int all = x.login(2, 0, 0, 0, 0) & x.login(0, 4, 0, 0, 0) & x.login(0, 3, 12, 0, 0)
                    & x.logout(2, 0, 0) & x.logout(0, -1, 0) & x.logout(0, 3, 0) & x.deliver(24)
                    & x.deliver(-1) & x.tick(0) & x.tick(11) & x.sync(2) & x.sync(5);
            return done ? 0 : all;
        });
    }

    private static void looksChangeNothing() {
        CHECK.about("Nothing is promised beyond the answers and state changes described above");
        for (State state : State.values()) {
            RealmLogins x = state.make();
            String first = Realm.look(x);
            RealmLogins y = state.make();
            for (int i = -1; i < 9; i++) {
                y.flight();
                y.field(0, i);
                y.line(0, 1, i);
                y.holder(3, i);
                y.journal(4, i);
            }
            CHECK.same("a look after looks, " + state, Realm.look(y), first);
        }
    }
}
