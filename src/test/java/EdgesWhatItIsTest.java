import java.util.Random;

/** What it is: an object of 512 calls. And rule 7 of LANGUAGE.md: no call ever throws or fails to end. */
public final class EdgesWhatItIsTest {
    private static final Check CHECK = new Check("EdgesWhatItIsTest");
    private static final int[] SMALL = {-1, 0, 1, 2, 3, 4, 5, 6, 7, 8, 10, 11, 12, 23, 24, 39, 40};

    public static void main(String[] args) {
        clockOf512Calls();
        entriesOf512Calls();
        lastCallIsLikeTheFirst();
        noCallThrows();
        CHECK.end();
    }

    private static void clockOf512Calls() {
        CHECK.about("An object is used for at most 512 calls after it has been made", "the clock");
        RealmLogins x = new RealmLogins();
        for (int call = 1; call <= 504; call++) {
            x.tick(10);
        }
        CHECK.due("call 505", x.login(0, 0, 0, 0, 0), 0);
        CHECK.due("call 506", x.tick(4), 0);
        CHECK.due("call 507", x.tick(1), 1);
        CHECK.due("call 508", x.tick(10), 1);
        CHECK.due("call 509", x.line(0, 0, 1), 3);
        CHECK.due("call 510", x.deliver(2), 1);
        CHECK.due("call 511", x.deliver(2), 1);
        CHECK.due("call 512", x.sync(3), 1);
    }

    private static void entriesOf512Calls() {
        CHECK.about("An object is used for at most 512 calls after it has been made", "the number of entries made");
        RealmLogins x = new RealmLogins();
        x.login(0, 0, 0, 0, 9);
        for (int n = 0; n < 127; n++) {
            x.copy(0);
            x.deliver(1);
            x.lose(1);
            x.crash(2);
        }
        x.deliver(0);
        CHECK.due("own auth of the entry behind 127", x.field(0, 2), Edges.mix(9, 127));
    }

    private static void lastCallIsLikeTheFirst() {
        CHECK.about("An object is used for at most 512 calls after it has been made", "each of them");
        RealmLogins x = new RealmLogins();
        for (int call = 1; call <= 512; call += 2) {
            CHECK.due("call " + call, x.login(0, 0, 0, 0, call), 0);
            CHECK.due("call " + (call + 1), x.crash(0), true);
        }
    }

    /** Far more than 512 calls of every kind: what they answer is free, but they have to answer. */
    private static void noCallThrows() {
        CHECK.about("what later calls answer is free");
        int calls = 0;
        for (State state : State.values()) {
            Random random = new Random(state.ordinal());
            RealmLogins x = state.make();
            for (int i = 0; i < 20000; i++) {
                call(x, random);
                calls++;
            }
            CHECK.due("flight is 0 .. 24", x.flight() >= 0 && x.flight() <= 24, true);
        }
        CHECK.due("calls that ended", calls, 60000);
    }

    private static int any(Random random) {
        int way = random.nextInt(12);
        return way == 0 ? random.nextInt() : way == 1 ? Edges.INTS[random.nextInt(Edges.INTS.length)]
                : SMALL[random.nextInt(SMALL.length)];
    }

    private static void call(RealmLogins x, Random random) {
        int a = any(random);
        int b = any(random);
        int c = any(random);
        switch (random.nextInt(17)) {
            case 0 -> x.key(a, b, c);
            case 1 -> x.enrol(a, b, c);
            case 2 -> x.login(a, b, c, any(random), any(random));
            case 3 -> x.logout(a, b, c);
            case 4 -> x.lose(a);
            case 5 -> x.copy(a);
            case 6 -> x.forge(a, b, c);
            case 7 -> x.tick(a);
            case 8 -> x.sync(a);
            case 9 -> x.crash(a);
            case 10 -> x.evict(a, b);
            case 11 -> x.field(a, b);
            case 12 -> x.line(a, b, c);
            case 13 -> x.holder(a, b);
            case 14 -> x.journal(a, b);
            default -> x.deliver(a);
        }
    }
}
