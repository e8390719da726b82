/** Promise 8: copy. */
public final class Edges08CopyTest {
    private static final Check CHECK = new Check("Edges08CopyTest");

    public static void main(String[] args) {
        copiesEveryPlace();
        copyIsApart();
        copyIsAsGood();
        upTo24();
        falseForNoPlace();
        falseWhen24AreInFlight();
        CHECK.end();
    }

    private static void copiesEveryPlace() {
        CHECK.about("Puts a copy of the datagram at place k at the end of the flight");
        for (int k = 0; k < 6; k++) {
            RealmLogins x = State.BUSY.make();
            String[] before = new String[6];
            for (int i = 0; i < 6; i++) {
                before[i] = Realm.parts(x, i);
            }
            CHECK.due("copy(" + k + ")", x.copy(k), true);
            CHECK.due("flight", x.flight(), 7);
            for (int i = 0; i < 6; i++) {
                CHECK.same("place " + i, Realm.parts(x, i), before[i]);
            }
            CHECK.same("the copy", Realm.parts(x, 6), before[k]);
        }
    }

    private static void copyIsApart() {
        CHECK.about("a copy of the datagram", "what is forged in one is not in the other");
        for (int f = 0; f < 6; f++) {
            RealmLogins x = State.BUSY.make();
            x.copy(2);
            String before = Realm.parts(x, 2);
            x.forge(6, f, Edges.MIN);
            CHECK.same("the first", Realm.parts(x, 2), before);
            String copy = Realm.parts(x, 6);
            x.forge(2, f, 1);
            CHECK.same("the copy", Realm.parts(x, 6), copy);
        }
    }

    private static void copyIsAsGood() {
        CHECK.about("a copy of the datagram", "its sender and receiver are the same");
        for (int k = 0; k < 6; k++) {
            RealmLogins x = State.BUSY.make();
            RealmLogins y = State.BUSY.make();
            x.copy(k);
            x.lose(k);
            CHECK.due("deliver the copy of " + k, x.deliver(5), y.deliver(k));
            CHECK.same("all that can be seen", Realm.look(x), Realm.look(y));
        }
    }

    private static void upTo24() {
        CHECK.about("false when .. 24 are in flight");
        RealmLogins x = Realm.askToRelay();
        for (int count = 1; count < 24; count++) {
            CHECK.due("copy when " + count + " are in flight", x.copy(count - 1), true);
            CHECK.due("flight", x.flight(), count + 1);
        }
        CHECK.due("copy when 24 are in flight", x.copy(0), false);
        CHECK.due("copy when 24 are in flight", x.copy(23), false);
        CHECK.due("flight", x.flight(), 24);
        x.lose(11);
        CHECK.due("copy when 23 are in flight", x.copy(22), true);
        CHECK.due("copy when 24 are in flight", x.copy(22), false);
    }

    private static void falseForNoPlace() {
        CHECK.about("false when k is no place");
        Refusals refusals = new Refusals(CHECK);
        for (int k : Edges.outside(0, 23)) {
            refusals.no("copy(" + k + ")", x -> x.copy(k));
        }
        refusals.noIn(State.NEW, "copy(0)", x -> x.copy(0));
        refusals.noIn(State.BUSY, "copy(6)", x -> x.copy(6));
        refusals.noIn(State.BUSY, "copy(23)", x -> x.copy(23));
    }

    private static void falseWhen24AreInFlight() {
        CHECK.about("false when .. 24 are in flight", "it changes nothing");
        Refusals refusals = new Refusals(CHECK);
        for (int k = 0; k < 24; k++) {
            int place = k;
            refusals.noIn(State.FULL, "copy(" + place + ")", x -> x.copy(place));
        }
    }
}
