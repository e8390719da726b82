/** Terms: THE RELAY and its entries. */
public final class EdgesTermsRelayTest {
    private static final Check CHECK = new Check("EdgesTermsRelayTest");
    private static final int MIN = Edges.MIN;
    private static final int MAX = Edges.MAX;

    public static void main(String[] args) {
        entriesAreEmptyAtFirst();
        eightEntriesAreThere();
        entryIsUsedAgainForTheSameFour();
        entryBehind7Is0();
        entryGoesInsteadOfWhatWasThere();
        numberOfEntriesMadeGoesOn();
        entryKeepsAnyId();
        passwordIsHiddenAnew();
        closeKeepsItsB();
        entryUsedAgainTakesTheAAndBThatCame();
        answerIdIs0To7();
        answerNeedsTheEntrysHome();
        answerIsHandedOnWithAnyInts();
        answerIsHandedOnWhateverTheEntrysKind();
        entriesStayWhenTheyWereAnswered();
        CHECK.end();
    }

    /** Brings a request of point 0 that is right to the relay; place 0 is an ASK on its way there. */
    private static int bring(RealmLogins x, int kind, int id, int auth, int a, int b) {
        x.copy(0);
        int k = x.flight() - 1;
        int[] due = {kind, id, auth, a, b};
        for (int f = 0; f < due.length; f++) {
            x.forge(k, f, due[f] - x.field(k, f));
        }
        Realm.reseal(x, k, Realm.KEYS[0], auth);
        return x.deliver(k);
    }

    private static int last(RealmLogins x, int f) {
        return x.field(x.flight() - 1, f);
    }

    private static void entriesAreEmptyAtFirst() {
        CHECK.about("THE RELAY has eight ENTRIES 0 .. 7, all empty at first.");
        for (int id = 1; id < 8; id++) {
            for (int auth : new int[] {0, Realm.mix(0, 0), Realm.mix(7, 0), Realm.mix(0, id)}) {
                RealmLogins x = Realm.answerToRelay();
                x.forge(0, 1, id);
                Realm.reseal(x, 0, Realm.KEYS[2], auth);
                CHECK.due("an answer for entry " + id, x.deliver(0), 0);
                CHECK.due("flight", x.flight(), 0);
            }
        }
        RealmLogins x = Realm.keyed();
        x.login(0, 0, 0, 0, 0);
        CHECK.due("a request of zeros finds no entry", x.deliver(0), 1);
        x.tick(5);
        x.crash(2);
        CHECK.due("nor after a crash", x.deliver(1), 1);
    }

    private static void eightEntriesAreThere() {
        CHECK.about("is an entry of the same point, KIND, ID and AUTH there, it is used AGAIN");
        RealmLogins x = Realm.askToRelay();
        for (int i = 0; i < 8; i++) {
            CHECK.due("request " + i, bring(x, Realm.CLOSE, i, i, i, i), 1);
            CHECK.due("its entry", last(x, 1), i);
        }
        for (int i = 7; i >= 0; i--) {
            CHECK.due("request " + i + " again", bring(x, Realm.CLOSE, i, i, i, i), 2);
            CHECK.due("its entry", last(x, 1), i);
            CHECK.due("its own auth", last(x, 2), Edges.mix(i, i));
        }
    }

    private static void entryIsUsedAgainForTheSameFour() {
        CHECK.about("the same point, KIND, ID and AUTH");
        for (int other : new int[] {1, -1, MIN, 8, 256}) {
            RealmLogins x = Realm.askToRelay();
            CHECK.due("a request", bring(x, Realm.ASK, 2, 5, 0, 0), 1);
            CHECK.due("the same", bring(x, Realm.ASK, 2, 5, 0, 0), 2);
            CHECK.due("the same but for A and B", bring(x, Realm.ASK, 2, 5, other, other), 2);
            CHECK.due("another ID", bring(x, Realm.ASK, 2 + other, 5, 0, 0), 1);
            CHECK.due("another AUTH", bring(x, Realm.ASK, 2, 5 + other, 0, 0), 1);
            CHECK.due("another KIND", bring(x, Realm.CLOSE, 2, 5, 0, 0), 1);
        }
        RealmLogins x = Realm.peopled();
        x.login(0, 0, 0, 1000, 5);
        x.login(1, 0, 0, 1000, 5);
        CHECK.due("a request of point 0", x.deliver(0), 1);
        CHECK.due("the same of point 1", x.deliver(0), 1);
        CHECK.due("has an entry of its own", last(x, 1), 1);
    }

    private static void entryBehind7Is0() {
        CHECK.about("an entry is made in the place behind the one made last (0 is behind 7; 0 when none was made)");
        RealmLogins x = Realm.askToRelay();
        for (int i = 0; i < 18; i++) {
            CHECK.due("request " + i, bring(x, Realm.CLOSE, 0, i, 0, 0), 1);
            CHECK.due("entry of request " + i, last(x, 1), i % 8);
            x.lose(1);
        }
        CHECK.due("entry 1, used again", bring(x, Realm.CLOSE, 0, 17, 0, 0), 2);
        CHECK.due("entry 2, used again", bring(x, Realm.CLOSE, 0, 10, 0, 0), 2);
        bring(x, Realm.CLOSE, 0, 18, 0, 0);
        CHECK.due("what is used again is not made: the next is 2", last(x, 1), 2);
    }

    private static void entryGoesInsteadOfWhatWasThere() {
        CHECK.about("instead of what was there");
        RealmLogins x = Realm.askToRelay();
        for (int auth = 0; auth < 8; auth++) {
            bring(x, Realm.CLOSE, 0, auth, 0, 0);
        }
        CHECK.due("with eight there the first is there", bring(x, Realm.CLOSE, 0, 0, 0, 0), 2);
        CHECK.due("the ninth", bring(x, Realm.CLOSE, 0, 8, 0, 0), 1);
        CHECK.due("the second is there still", bring(x, Realm.CLOSE, 0, 1, 0, 0), 2);
        CHECK.due("the eighth is there still", bring(x, Realm.CLOSE, 0, 7, 0, 0), 2);
        CHECK.due("the first is gone, and made anew", bring(x, Realm.CLOSE, 0, 0, 0, 0), 1);
        CHECK.due("in place 1", last(x, 1), 1);
        CHECK.due("so the second is gone", bring(x, Realm.CLOSE, 0, 1, 0, 0), 1);
        CHECK.due("the ninth is there", bring(x, Realm.CLOSE, 0, 8, 0, 0), 2);
        CHECK.due("in place 0", last(x, 1), 0);

        x = Realm.answerToRelay();
        x.login(0, 1, 1, 1001, 70);
        for (int i = 0; i < 7; i++) {
            x.copy(1);
            x.forge(2 + i, 2, 1 + i);
            Realm.reseal(x, 2 + i, Realm.KEYS[0], 71 + i);
        }
        x.copy(0);
        for (int i = 0; i < 7; i++) {
            CHECK.due("entries 1 to 7", x.deliver(1), 1);
        }
        CHECK.due("an answer, while its entry is there", x.deliver(0), 1);
        CHECK.due("entry 0 anew", x.deliver(0), 1);
        CHECK.due("an answer, when its entry is gone", x.deliver(0), 0);
    }

    private static void numberOfEntriesMadeGoesOn() {
        CHECK.about("OWN AUTH: MIX(AUTH, n), where n is the number of entries made before it, of all times");
        RealmLogins x = Realm.askToRelay();
        for (int i = 0; i < Edges.INTS.length; i++) {
            bring(x, Realm.CLOSE, 0, Edges.INTS[i], 0, 0);
            CHECK.due("own auth of entry " + i, last(x, 2), Edges.mix(Edges.INTS[i], i));
            CHECK.due("used again", bring(x, Realm.CLOSE, 0, Edges.INTS[i], 0, 0), 2);
            CHECK.due("own auth of entry " + i, last(x, 2), Edges.mix(Edges.INTS[i], i));
        }
        bring(x, Realm.CLOSE, 0, 5, 0, 0);
        CHECK.due("own auth of the eighth", last(x, 2), Edges.mix(5, 7));
        bring(x, Realm.CLOSE, 0, 6, 0, 0);
        CHECK.due("own auth of the ninth", last(x, 2), Edges.mix(6, 8));
        x.crash(2);
        bring(x, Realm.CLOSE, 0, 6, 0, 0);
        CHECK.due("place after a crash", last(x, 1), 0);
        CHECK.due("own auth after a crash", last(x, 2), Edges.mix(6, 9));
    }

    private static void entryKeepsAnyId() {
        CHECK.about("an answer of the same KIND, A and B with the entry's ID is sent to the entry's point");
        for (int id : new int[] {MIN, -1, 0, 7, 8, MAX}) {
            RealmLogins x = Realm.askToRelay();
            x.forge(0, 1, id);
            Realm.reseal(x, 0, Realm.KEYS[0], 7);
            CHECK.due("a request with ID " + id, x.deliver(0), 1);
            CHECK.due("the entry's number goes on", x.field(0, 1), 0);
            CHECK.due("home", x.deliver(0), 1);
            x.sync(3);
            CHECK.due("relay", x.deliver(0), 1);
            CHECK.same("the answer", Realm.parts(x, 0),
                    Realm.datagram(2, 0, Realm.KEYS[0], Realm.ACCEPT, id, 7, 0, 0));
            CHECK.due("the point has ID 0 alone", x.deliver(0), id == 0 ? 1 : 0);
        }
    }

    private static void passwordIsHiddenAnew() {
        CHECK.about("of an ASK what came ^ MIX(the key to the point, the AUTH that came) "
                + "^ MIX(the key to the home, own auth)");
        for (int b : Edges.INTS) {
            RealmLogins x = Realm.askToRelay();
            CHECK.due("an ASK with B " + b, bring(x, Realm.ASK, 0, MIN, 1, b), 1);
            int own = Edges.mix(MIN, 0);
            CHECK.same("what goes on", Realm.parts(x, 1), Realm.datagram(2, 4, Realm.KEYS[3], Realm.ASK, 0, own, 1,
                    b ^ Edges.mix(Realm.KEYS[0], MIN) ^ Edges.mix(Realm.KEYS[3], own)));
        }
    }

    private static void closeKeepsItsB() {
        CHECK.about("B: of a CLOSE what came");
        for (int b : Edges.INTS) {
            for (int a : Edges.INTS) {
                RealmLogins x = Realm.askToRelay();
                CHECK.due("a CLOSE with A " + a + ", B " + b, bring(x, Realm.CLOSE, 0, MAX, a, b), 1);
                int home = 3 + (a & 1);
                CHECK.same("what goes on", Realm.parts(x, 1), Realm.datagram(
                        2, home, Realm.KEYS[home - 1], Realm.CLOSE, 0, Edges.mix(MAX, 0), a, b));
            }
        }
    }

    private static void entryUsedAgainTakesTheAAndBThatCame() {
        CHECK.about("In both cases a datagram is then sent to the entry's home: the KIND and A that came");
        RealmLogins x = Realm.askToRelay();
        bring(x, Realm.CLOSE, 0, 5, 0, 0);
        for (int a : Edges.INTS) {
            CHECK.due("again, with A " + a, bring(x, Realm.CLOSE, 0, 5, a, ~a), 2);
            CHECK.same("what goes on", Realm.parts(x, x.flight() - 1),
                    Realm.datagram(2, 3, Realm.KEYS[2], Realm.CLOSE, 0, Edges.mix(5, 0), a, ~a));
        }
    }

    private static void answerIdIs0To7() {
        CHECK.about("A datagram from a home is taken when it is an answer, its ID is 0 .. 7, "
                + "the entry with this number is there");
        for (int id : new int[] {MIN, MIN + 7, -8, -1, 0, 1, 6, 7, 8, 9, 15, 256, 65543, MAX}) {
            RealmLogins x = Realm.peopled();
            for (int i = 0; i < 8; i++) {
                x.login(i / 4, i % 4, 0, 1000, i);
                x.deliver(i);
            }
            x.deliver(0);
            x.sync(3);
            x.forge(7, 1, id);
            Realm.reseal(x, 7, Realm.KEYS[2], Realm.mix(id & 7, id & 7));
            CHECK.due("eight entries, ID " + id, x.deliver(7), id >= 0 && id <= 7 ? 1 : 0);
            CHECK.due("flight", x.flight(), id >= 0 && id <= 7 ? 8 : 7);
            if (id >= 0 && id <= 7) {
                CHECK.same("what goes on", Realm.parts(x, 7), Realm.datagram(
                        2, id / 4, Realm.KEYS[id / 4], Realm.ACCEPT, id % 4, id, 0, 0));
            }
        }
    }

    private static void answerNeedsTheEntrysHome() {
        CHECK.about("the entry with this number is there and has this home");
        for (int home = 3; home <= 4; home++) {
            RealmLogins x = Realm.keyed();
            x.key(3, Realm.KEYS[2], Realm.KEYS[2]);
            x.login(0, 0, home - 3, 0, 50);
            x.login(0, 1, 4 - home, 0, 51);
            x.deliver(0);
            x.deliver(0);
            x.deliver(0);
            x.sync(home);
            x.copy(1);
            x.forge(2, 1, 1);
            Realm.reseal(x, 2, Realm.KEYS[2], Realm.mix(51, 1));
            CHECK.due("home " + home + " answers for an entry of the other home", x.deliver(2), 0);
            CHECK.due("home " + home + " answers for its own entry", x.deliver(1), 1);
        }
    }

    private static void answerIsHandedOnWithAnyInts() {
        CHECK.about("an answer of the same KIND, A and B with the entry's ID is sent to the entry's point, "
                + "with the seal for the entry's AUTH");
        for (int kind : new int[] {Realm.ACCEPT, Realm.REJECT, Realm.CLOSED}) {
            for (int v : Edges.INTS) {
                RealmLogins x = Realm.answerToRelay();
                x.forge(0, 0, kind - Realm.ACCEPT);
                x.forge(0, 3, v);
                x.forge(0, 4, ~v);
                Realm.reseal(x, 0, Realm.KEYS[2], Realm.mix(7, 0));
                CHECK.due("kind " + kind + " with A " + v, x.deliver(0), 1);
                CHECK.same("what goes on", Realm.parts(x, 0),
                        Realm.datagram(2, 0, Realm.KEYS[0], kind, 0, 7, v, ~v));
            }
        }
    }

    private static void answerIsHandedOnWhateverTheEntrysKind() {
        CHECK.about("A datagram from a home is taken when it is an answer", "of any KIND, and the entry too");
        for (int asked : new int[] {Realm.ASK, Realm.CLOSE}) {
            for (int kind = -1; kind <= 6; kind++) {
                RealmLogins x = Realm.answerToRelay();
                if (asked == Realm.CLOSE) {
                    x.deliver(0);
                    x.deliver(0);
                    x.logout(0, 0, 8);
                    x.deliver(0);
                    x.deliver(0);
                    x.sync(3);
                }
                int entry = x.field(0, 1);
                x.forge(0, 0, kind - x.field(0, 0));
                Realm.reseal(x, 0, Realm.KEYS[2], Realm.mix(7 + entry, entry));
                boolean answer = kind == Realm.ACCEPT || kind == Realm.REJECT || kind == Realm.CLOSED;
                CHECK.due("kind " + kind + " for an entry of kind " + asked, x.deliver(0), answer ? 1 : 0);
                CHECK.due("flight", x.flight(), answer ? 1 : 0);
                if (answer) {
                    boolean fits = (asked == Realm.CLOSE) == (kind == Realm.CLOSED);
                    CHECK.due("the KIND that goes on", x.field(0, 0), kind);
                    CHECK.due("the point takes what its line waits for", x.deliver(0), fits ? 1 : 0);
                }
            }
        }
    }

    private static void entriesStayWhenTheyWereAnswered() {
        CHECK.about("Entries stay when they were answered.");
        RealmLogins x = Realm.answerToRelay();
        x.copy(0);
        x.copy(0);
        for (int i = 0; i < 3; i++) {
            CHECK.due("an answer", x.deliver(0), 1);
        }
        CHECK.due("three were handed on", x.flight(), 3);
        x.tick(5);
        CHECK.due("the request uses its entry again", x.deliver(3), 2);
        x.deliver(3);
        CHECK.due("and the answer to that is handed on", x.deliver(3), 1);
    }
}
