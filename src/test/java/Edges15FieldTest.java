/** Promise 15: field. */
public final class Edges15FieldTest {
    private static final Check CHECK = new Check("Edges15FieldTest");
    private static final Refusals REFUSALS = new Refusals(CHECK);

    public static void main(String[] args) {
        fieldsSenderAndReceiver();
        firstAndLastPlace();
        anyIntIsTold();
        noneForNoPlace();
        noneForOtherFields();
        CHECK.end();
    }

    private static void fieldsSenderAndReceiver() {
        CHECK.about("field f when f is 0 .. 5, the sender when f is 6, the receiver when f is 7");
        RealmLogins x = Realm.peopled();
        for (int point = 0; point < 2; point++) {
            for (int user : new int[] {10, 11}) {
                int home = 3 + user % 2;
                x.login(point, user - 10, user, 1000 + user, 7);
                ways(x, point, 2);
                x.deliver(0);
                ways(x, 2, home);
                x.deliver(0);
                x.sync(home);
                ways(x, home, 2);
                x.deliver(0);
                ways(x, 2, point);
                x.deliver(0);
            }
        }
        x.login(1, 2, 11, 5, -7);
        int b = 5 ^ Edges.mix(Realm.KEYS[1], -7);
        int[] due = {0, 2, -7, 11, b, Edges.seal(Realm.KEYS[1], 0, 2, -7, 11, b), 1, 2};
        for (int f = 0; f < 8; f++) {
            CHECK.due("field(0, " + f + ")", x.field(0, f), due[f]);
        }
    }

    private static void ways(RealmLogins x, int sender, int receiver) {
        CHECK.due("sender", x.field(0, 6), sender);
        CHECK.due("receiver", x.field(0, 7), receiver);
    }

    private static void firstAndLastPlace() {
        CHECK.about("Of the datagram at place k");
        for (int count : new int[] {1, 2, 23, 24}) {
            RealmLogins x = Realm.askToRelay();
            for (int k = 1; k < count; k++) {
                x.copy(0);
                x.forge(k, 3, k);
            }
            for (int k = 0; k < count; k++) {
                CHECK.due("A at place " + k, x.field(k, 3), k);
            }
            CHECK.due("behind the last", x.field(count, 3), -1);
        }
    }

    private static void anyIntIsTold() {
        CHECK.about("field f when f is 0 .. 5");
        for (int f = 0; f < 6; f++) {
            for (int v : Edges.INTS) {
                RealmLogins x = Realm.askToRelay();
                x.forge(0, f, v - x.field(0, f));
                CHECK.due("field(0, " + f + ")", x.field(0, f), v);
            }
        }
    }

    private static void noneForNoPlace() {
        CHECK.about("NONE when k is no place");
        for (int k : Edges.outside(0, 23)) {
            for (int f : new int[] {0, 5, 7}) {
                REFUSALS.none("field(" + k + ", " + f + ")", x -> x.field(k, f));
            }
        }
        for (int i = 0; i < 8; i++) {
            int f = i;
            REFUSALS.noneIn(State.NEW, "field(0, " + f + ")", x -> x.field(0, f));
            REFUSALS.noneIn(State.BUSY, "field(6, " + f + ")", x -> x.field(6, f));
            REFUSALS.noneIn(State.BUSY, "field(23, " + f + ")", x -> x.field(23, f));
        }
    }

    private static void noneForOtherFields() {
        CHECK.about("NONE when .. f is none of these");
        for (int f : Edges.outside(0, 7)) {
            REFUSALS.none("field(0, " + f + ")", x -> x.field(0, f));
            REFUSALS.noneIn(State.FULL, "field(23, " + f + ")", x -> x.field(23, f));
        }
    }
}
