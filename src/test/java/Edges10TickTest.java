/** Promise 10: tick. */
public final class Edges10TickTest {
    private static final Check CHECK = new Check("Edges10TickTest");
    private static final int MAX = Edges.MAX;

    public static void main(String[] args) {
        oneToTenTicks();
        tenTicksAreTenTimesOne();
        sendsFiveTicksAfterTheLatestSending();
        sendsThreeTimesInAll();
        idleWithVerdict3WhenItWasAsking();
        idleWithItsVerdictWhenItWasClosing();
        linesThatAreNotPendingStay();
        pointsAndLinesInTheirOrder();
        countsWhatWasLost();
        whatALineSendsIsTheSame();
        clockGrowsForTheHomesToo();
        noneForOtherNumbers();
        CHECK.end();
    }

    private static void oneToTenTicks() {
        CHECK.about("n times (1 .. 10, else NONE): the clock grows by 1");
        for (int n = 1; n <= 10; n++) {
            RealmLogins x = Realm.askToRelay();
            CHECK.due("tick(" + n + ")", x.tick(n), n / 5);
            int left = 5 - n % 5;
            if (left > 1) {
                CHECK.due("tick(" + (left - 1) + ") behind it", x.tick(left - 1), 0);
            }
            CHECK.due("and one more", x.tick(1), n < 10 ? 1 : 0);
        }
    }

    private static void tenTicksAreTenTimesOne() {
        CHECK.about("n times");
        for (State state : State.values()) {
            for (int n = 1; n <= 10; n++) {
                RealmLogins x = state.make();
                RealmLogins y = state.make();
                int sum = 0;
                for (int i = 0; i < n; i++) {
                    sum += y.tick(1);
                }
                CHECK.due("tick(" + n + ")", x.tick(n), sum);
                CHECK.same("as " + n + " times tick(1), " + state, Realm.look(x), Realm.look(y));
            }
        }
    }

    private static void sendsFiveTicksAfterTheLatestSending() {
        CHECK.about("a pending line whose latest sending was 5 ticks ago sends again");
        for (int begin = 0; begin < 7; begin++) {
            RealmLogins x = Realm.peopled();
            for (int i = 0; i < begin; i++) {
                x.tick(1);
            }
            x.login(0, 0, 0, 1000, 7);
            for (int tick = 1; tick <= 14; tick++) {
                CHECK.due("tick " + tick + " after a login at " + begin, x.tick(1), tick == 5 || tick == 10 ? 1 : 0);
                CHECK.due("ASKING", x.line(0, 0, 0), 1);
            }
            x.tick(1);
            CHECK.due("given up at the fifteenth", x.line(0, 0, 0), 0);
        }
    }

    private static void sendsThreeTimesInAll() {
        CHECK.about("sends again if it has sent fewer than 3 times since it became pending");
        RealmLogins x = Realm.askToRelay();
        CHECK.due("sent once", x.tick(5), 1);
        CHECK.due("sent twice", x.tick(5), 1);
        CHECK.due("sent three times", x.tick(5), 0);
        CHECK.due("flight", x.flight(), 3);
        x.login(0, 0, 0, 1000, 8);
        CHECK.due("pending anew: twice more", x.tick(10), 2);
        x.deliver(3);
        x.deliver(5);
        x.sync(3);
        x.deliver(5);
        x.deliver(5);
        CHECK.due("let in after three times", x.line(0, 0, 0), 2);
        x.logout(0, 0, 9);
        CHECK.due("CLOSING: twice more", x.tick(10), 2);
        CHECK.due("and no more", x.tick(5), 0);
    }

    private static void idleWithVerdict3WhenItWasAsking() {
        CHECK.about("otherwise it becomes IDLE, and if it was ASKING its verdict is 3");
        RealmLogins x = Realm.askToRelay();
        x.tick(10);
        x.tick(4);
        line(x, 1, 0, 0, -1, -1);
        CHECK.due("the fifteenth tick", x.tick(1), 0);
        line(x, 0, 3, -1, -1, -1);
        CHECK.due("and it stays so", x.tick(10), 0);
        line(x, 0, 3, -1, -1, -1);
        CHECK.due("its ID is free, the next is behind it", x.login(0, 0, 0, 0, 0), 1);
    }

    private static void idleWithItsVerdictWhenItWasClosing() {
        CHECK.about("otherwise it becomes IDLE", "a CLOSING line keeps its verdict");
        RealmLogins x = Realm.peopled();
        Realm.letIn(x, 0, 0, 0, 7);
        x.logout(0, 0, 8);
        x.tick(10);
        x.tick(4);
        line(x, 3, 1, 1, 0, 0);
        CHECK.due("the fifteenth tick", x.tick(1), 0);
        line(x, 0, 1, -1, -1, -1);
        CHECK.due("its session is open still", x.holder(3, 0), 0);
    }

    private static void line(RealmLogins x, int... due) {
        for (int which = 0; which < 5; which++) {
            CHECK.due("line, which " + which, x.line(0, 0, which), due[which]);
        }
    }

    private static void linesThatAreNotPendingStay() {
        CHECK.about("a pending line");
        RealmLogins x = Realm.peopled();
        Realm.letIn(x, 0, 0, 0, 7);
        x.login(0, 1, 2, 0, 7);
        x.deliver(0);
        x.deliver(0);
        Realm.settle(x, 3);
        String before = Realm.look(x);
        for (int i = 0; i < 25; i++) {
            CHECK.due("tick", x.tick(i % 10 + 1), 0);
        }
        CHECK.same("UP and IDLE lines stay", Realm.look(x), before);
        x = Realm.askToRelay();
        x.tick(4);
        x.crash(0);
        CHECK.due("nor does a line send that was pending", x.tick(10), 0);
        CHECK.due("its verdict", x.line(0, 0, 1), 0);
    }

    private static void pointsAndLinesInTheirOrder() {
        CHECK.about("then for point 0 and then 1, lines 0 to 3");
        RealmLogins x = Realm.keyed();
        int[] order = {7, 2, 5, 0, 3, 6, 1, 4};
        for (int i : order) {
            x.login(i / 4, i % 4, 0, 0, 100 + i);
        }
        CHECK.due("all send", x.tick(10), 16);
        for (int i = 0; i < 16; i++) {
            CHECK.due("AUTH of sending " + i, x.field(8 + i, 2), 100 + i % 8);
        }
        x = Realm.keyed();
        x.login(1, 3, 0, 0, 1);
        x.tick(1);
        x.login(0, 0, 0, 0, 2);
        CHECK.due("each tick has its own order", x.tick(5), 2);
        CHECK.due("the one whose time came first", x.field(2, 2), 1);
        CHECK.due("the other", x.field(3, 2), 2);
    }

    private static void countsWhatWasLost() {
        CHECK.about("Answers how often a line sent in all, what was lost counted too.");
        for (int before = 16; before <= 24; before++) {
            RealmLogins x = Realm.keyed();
            for (int i = 0; i < 8; i++) {
                x.login(i / 4, i % 4, 0, 0, 100 + i);
            }
            Realm.copyUpTo(x, before);
            CHECK.due("tick(5) with " + before + " in flight", x.tick(5), 8);
            CHECK.due("flight", x.flight(), 24);
            for (int k = before; k < 24; k++) {
                CHECK.due("AUTH at place " + k, x.field(k, 2), 100 + k - before);
            }
            CHECK.due("tick(10), all lost, and given up", x.tick(10), 8);
            CHECK.due("flight", x.flight(), 24);
            for (int i = 0; i < 8; i++) {
                CHECK.due("verdict", x.line(i / 4, i % 4, 1), 3);
            }
        }
    }

    private static void whatALineSendsIsTheSame() {
        CHECK.about("sends again", "with its ID and AUTH, and the key of now");
        RealmLogins x = Realm.keyed();
        x.login(1, 1, 11, Edges.MIN, MAX);
        x.tick(5);
        CHECK.same("the same", Realm.parts(x, 1), Realm.parts(x, 0));
        x.key(1, MAX, 0);
        x.tick(5);
        CHECK.same("with another key", Realm.parts(x, 2),
                Realm.datagram(1, 2, MAX, Realm.ASK, 0, MAX, 11, Edges.MIN ^ Edges.mix(MAX, MAX)));
    }

    private static void clockGrowsForTheHomesToo() {
        CHECK.about("the clock grows by 1");
        for (int n = 1; n <= 10; n++) {
            Desk desk = new Desk(3);
            desk.close(1, 0, 0);
            int clock = 0;
            while (clock + n <= 20) {
                desk.x.tick(n);
                clock += n;
            }
            CHECK.due("known at " + clock, desk.close(1, 0, 0), 3);
            desk.x.tick(n);
            CHECK.due("not known at " + (clock + n), desk.close(1, 0, 0), 1);
        }
    }

    private static void noneForOtherNumbers() {
        CHECK.about("(1 .. 10, else NONE)");
        Refusals refusals = new Refusals(CHECK);
        for (int n : Edges.outside(1, 10)) {
            refusals.none("tick(" + n + ")", x -> x.tick(n));
        }
    }
}
