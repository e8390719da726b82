/** Promise 7: lose. */
public final class Edges07LoseTest {
    private static final Check CHECK = new Check("Edges07LoseTest");

    public static void main(String[] args) {
        takesOutOfEveryPlace();
        untilNothingIsInFlight();
        nobodyHearsIt();
        falseForNoPlace();
        CHECK.end();
    }

    private static void takesOutOfEveryPlace() {
        CHECK.about("Takes the datagram at place k out of the flight");
        for (int count : new int[] {1, 2, 23, 24}) {
            for (int k = 0; k < count; k++) {
                RealmLogins x = Realm.askToRelay();
                for (int i = 1; i < count; i++) {
                    x.copy(0);
                    x.forge(i, 2, i);
                }
                CHECK.due("lose(" + k + ") of " + count, x.lose(k), true);
                CHECK.due("flight", x.flight(), count - 1);
                for (int i = 0; i < count - 1; i++) {
                    CHECK.due("AUTH at place " + i, x.field(i, 2), 7 + (i < k ? i : i + 1));
                }
                CHECK.due("field behind the last", x.field(count - 1, 0), -1);
            }
        }
    }

    private static void untilNothingIsInFlight() {
        CHECK.about("Takes the datagram at place k out of the flight", "until there is none");
        RealmLogins x = State.FULL.make();
        for (int left = 23; left >= 0; left--) {
            CHECK.due("lose", x.lose(left / 2), true);
            CHECK.due("flight", x.flight(), left);
        }
        CHECK.due("lose of none", x.lose(0), false);
        CHECK.due("flight", x.flight(), 0);
    }

    private static void nobodyHearsIt() {
        CHECK.about("Takes the datagram at place k out of the flight", "and does not give it to its receiver");
        RealmLogins x = Realm.askToRelay();
        x.lose(0);
        x.tick(5);
        CHECK.due("no entry was made", x.deliver(0), 1);
        CHECK.due("no entry was made before it", x.field(0, 2), Realm.mix(7, 0));
        x.lose(0);
        CHECK.due("no record was made", x.journal(3, 0), 0);
        x = Realm.answerToPoint();
        x.lose(0);
        CHECK.due("no line was settled", x.line(0, 0, 0), 1);
    }

    private static void falseForNoPlace() {
        CHECK.about("false when k is no place");
        Refusals refusals = new Refusals(CHECK);
        for (int k : Edges.outside(0, 23)) {
            refusals.no("lose(" + k + ")", x -> x.lose(k));
        }
        refusals.noIn(State.NEW, "lose(0)", x -> x.lose(0));
        refusals.noIn(State.BUSY, "lose(6)", x -> x.lose(6));
        refusals.noIn(State.BUSY, "lose(23)", x -> x.lose(23));
    }
}
