/** Promise 9: forge. */
public final class Edges09ForgeTest {
    private static final Check CHECK = new Check("Edges09ForgeTest");

    public static void main(String[] args) {
        addsAndWraps();
        everyPlace();
        thereAndBack();
        falseForNoPlace();
        falseForOtherFields();
        CHECK.end();
    }

    private static void addsAndWraps() {
        CHECK.about("Adds v (wrapping) to field f of the datagram at place k");
        for (int f = 0; f < 6; f++) {
            for (int from : Edges.INTS) {
                for (int v : Edges.INTS) {
                    RealmLogins x = Realm.askToRelay();
                    x.forge(0, f, from - x.field(0, f));
                    int[] due = new int[8];
                    for (int i = 0; i < 8; i++) {
                        due[i] = x.field(0, i);
                    }
                    due[f] = (int) ((long) from + v);
                    CHECK.due("forge by " + v, x.forge(0, f, v), true);
                    for (int i = 0; i < 8; i++) {
                        CHECK.due("field " + i + ", " + f + " was " + from + " and " + v + " was added",
                                x.field(0, i), due[i]);
                    }
                }
            }
        }
    }

    private static void everyPlace() {
        CHECK.about("of the datagram at place k");
        for (int k : new int[] {0, 1, 12, 22, 23}) {
            RealmLogins x = Realm.askToRelay();
            Realm.copyUpTo(x, 24);
            CHECK.due("forge at " + k, x.forge(k, 3, 5), true);
            for (int i = 0; i < 24; i++) {
                CHECK.due("A at " + i, x.field(i, 3), i == k ? 5 : 0);
            }
        }
    }

    private static void thereAndBack() {
        CHECK.about("Adds v (wrapping)");
        for (int f = 0; f < 6; f++) {
            RealmLogins x = Realm.askToRelay();
            x.forge(0, f, Edges.MIN);
            x.forge(0, f, Edges.MIN);
            x.forge(0, f, Edges.MAX);
            x.forge(0, f, Edges.MAX);
            x.forge(0, f, 2);
            x.forge(0, f, 0);
            CHECK.due("once round, it is right again", x.deliver(0), 1);
        }
    }

    private static void falseForNoPlace() {
        CHECK.about("false when k is no place");
        Refusals refusals = new Refusals(CHECK);
        for (int k : Edges.outside(0, 23)) {
            refusals.no("forge(" + k + ", 3, 1)", x -> x.forge(k, 3, 1));
        }
        refusals.noIn(State.NEW, "forge(0, 0, 1)", x -> x.forge(0, 0, 1));
        refusals.noIn(State.BUSY, "forge(6, 0, 1)", x -> x.forge(6, 0, 1));
        refusals.noIn(State.BUSY, "forge(23, 5, 1)", x -> x.forge(23, 5, 1));
    }

    /** 6 and 7 are the sender and the receiver for field(), but no fields that can be forged. */
    private static void falseForOtherFields() {
        CHECK.about("false when .. f is not 0 .. 5");
        Refusals refusals = new Refusals(CHECK);
        for (int f : Edges.outside(0, 5)) {
            refusals.no("forge(0, " + f + ", 1)", x -> x.forge(0, f, 1));
            refusals.noIn(State.FULL, "forge(23, " + f + ", 1)", x -> x.forge(23, f, 1));
        }
        refusals.no("forge(0, 7, 1)", x -> x.forge(0, 7, 1));
        refusals.no("forge(0, 8, 1)", x -> x.forge(0, 8, 1));
    }
}
