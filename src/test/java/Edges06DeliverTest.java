/** Promise 6: deliver. */
public final class Edges06DeliverTest {
    private static final Check CHECK = new Check("Edges06DeliverTest");

    public static void main(String[] args) {
        takesOutOfEveryPlace();
        answers0WhenItIsDropped();
        droppedChangesNothingElse();
        answers1WhenItIsTaken();
        answers2WhenItIsUsedAgain();
        answers3WhenItIsKnownAndNotDurable();
        noneForNoPlace();
        CHECK.end();
    }

    /** Datagrams told apart by their AUTH, as many as there are places. */
    private static RealmLogins row(int count) {
        RealmLogins x = Realm.askToRelay();
        for (int i = 1; i < count; i++) {
            x.copy(0);
            x.forge(i, 2, i);
        }
        return x;
    }

    private static void takesOutOfEveryPlace() {
        CHECK.about("Takes the datagram at place k of the flight (0 is the oldest) out of it");
        for (int count : new int[] {1, 2, 23, 24}) {
            for (int k = 0; k < count; k++) {
                RealmLogins x = row(count);
                int sent = k == 0 ? 1 : 0;
                CHECK.due("deliver(" + k + ") of " + count, x.deliver(k), sent);
                CHECK.due("flight", x.flight(), count - 1 + sent);
                for (int i = 0; i < count - 1; i++) {
                    CHECK.due("AUTH at place " + i, x.field(i, 2), 7 + (i < k ? i : i + 1));
                }
            }
        }
    }

    private static void answers0WhenItIsDropped() {
        CHECK.about("Answers 0 when it is dropped");
        RealmLogins[] made = {Realm.askToRelay(), Realm.askToHome(), Realm.answerToRelay(), Realm.answerToPoint()};
        for (RealmLogins x : made) {
            x.forge(0, 5, 1);
            CHECK.due("deliver", x.deliver(0), 0);
            CHECK.due("it is out of the flight", x.flight(), 0);
            CHECK.due("nothing is there any more", x.deliver(0), -1);
        }
    }

    private static void droppedChangesNothingElse() {
        CHECK.about("Answers 0 when it is dropped", "lines, entries and records stay");
        for (State state : new State[] {State.BUSY, State.FULL}) {
            for (int k = 0; k < (state == State.BUSY ? 6 : 3); k++) {
                RealmLogins x = state.make();
                RealmLogins y = state.make();
                x.forge(k, 5, 1);
                CHECK.due("deliver(" + k + ")", x.deliver(k), 0);
                y.lose(k);
                CHECK.same("as if it was lost", Realm.look(x), Realm.look(y));
            }
        }
    }

    private static void answers1WhenItIsTaken() {
        CHECK.about("1 when it is taken (it settles a line, makes an entry or a record, "
                + "or is an answer that the relay hands on)");
        CHECK.due("makes an entry", Realm.askToRelay().deliver(0), 1);
        CHECK.due("makes a record", Realm.askToHome().deliver(0), 1);
        CHECK.due("is handed on", Realm.answerToRelay().deliver(0), 1);
        CHECK.due("settles an ASKING line", Realm.answerToPoint().deliver(0), 1);
        CHECK.due("settles a CLOSING line", Realm.answerToClosing().deliver(0), 1);
        RealmLogins x = Realm.answerToPoint();
        x.crash(0);
        CHECK.due("settles no line", x.deliver(0), 0);
        x = Realm.answerToRelay();
        x.crash(2);
        CHECK.due("has no entry", x.deliver(0), 0);
        x = Realm.answerToRelay();
        x.copy(0);
        x.deliver(0);
        CHECK.due("a second answer is handed on too", x.deliver(0), 1);
        x.deliver(0);
        CHECK.due("a second answer settles nothing", x.deliver(0), 0);
    }

    private static void answers2WhenItIsUsedAgain() {
        CHECK.about("2 when it uses an entry again or a record's answer is sent again");
        RealmLogins x = Realm.askToRelay();
        Realm.copyUpTo(x, 4);
        CHECK.due("makes an entry", x.deliver(0), 1);
        for (int i = 0; i < 3; i++) {
            CHECK.due("uses it again", x.deliver(0), 2);
        }
        CHECK.due("each goes on", x.flight(), 4);
        x.deliver(0);
        x.sync(3);
        for (int i = 0; i < 3; i++) {
            CHECK.due("a record's answer again", x.deliver(0), 2);
        }
        CHECK.due("each is answered", x.flight(), 4);
        x.crash(3);
        x.tick(5);
        x.deliver(4);
        CHECK.due("and after a crash", x.deliver(4), 2);
    }

    private static void answers3WhenItIsKnownAndNotDurable() {
        CHECK.about("3 when it is known and the record is not durable");
        RealmLogins x = Realm.askToHome();
        Realm.copyUpTo(x, 5);
        CHECK.due("makes a record", x.deliver(0), 1);
        for (int i = 0; i < 2; i++) {
            CHECK.due("known", x.deliver(0), 3);
        }
        CHECK.due("nothing is sent", x.flight(), 2);
        x.crash(3);
        CHECK.due("not known after a crash", x.deliver(0), 1);
        CHECK.due("known", x.deliver(0), 3);
        CHECK.due("nothing is sent", x.flight(), 0);
    }

    private static void noneForNoPlace() {
        CHECK.about("NONE when k is no place");
        Refusals refusals = new Refusals(CHECK);
        for (int k : Edges.outside(0, 23)) {
            refusals.none("deliver(" + k + ")", x -> x.deliver(k));
        }
        refusals.noneIn(State.NEW, "deliver(0)", x -> x.deliver(0));
        refusals.noneIn(State.BUSY, "deliver(6)", x -> x.deliver(6));
        refusals.noneIn(State.BUSY, "deliver(7)", x -> x.deliver(7));
        refusals.noneIn(State.BUSY, "deliver(23)", x -> x.deliver(23));
    }
}
