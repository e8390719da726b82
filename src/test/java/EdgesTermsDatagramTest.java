import java.util.function.Supplier;

/** Terms: DATAGRAM, kinds, SEAL, and requests and answers that are RIGHT. */
public final class EdgesTermsDatagramTest {
    private static final Check CHECK = new Check("EdgesTermsDatagramTest");
    private static final int MIN = Edges.MIN;
    private static final int MAX = Edges.MAX;
    private static final int[] KINDS = {MIN, MIN + 3, -1, 0, 1, 2, 3, 4, 5, 6, 7, 8, 256, 259, MAX};
    private static final int OWN = Realm.mix(7, 0);

    public static void main(String[] args) {
        kindsOfRequests();
        kindsOfAnswers();
        sealTakesAnyInts();
        requestIsRightForOneSeal();
        requestIsSealedWithItsOwnAuth();
        authOfAnAnswerIsSentAsZero();
        authOfAnAnswerIsNotLookedAt();
        answerIsRightForOneSeal();
        CHECK.end();
    }

    private static void kindsOfRequests() {
        CHECK.about("The kinds are 0 ASK and 3 CLOSE (REQUESTS)");
        for (int kind : KINDS) {
            int due = kind == 0 || kind == 3 ? 1 : 0;
            RealmLogins x = Realm.askToRelay();
            CHECK.due("the relay, from a point, kind " + kind, deliverAs(x, kind, 0, 7), due);
            CHECK.due("what it sends", x.flight(), due);
            x = Realm.askToHome();
            CHECK.due("a home, kind " + kind, deliverAs(x, kind, 2, OWN), due);
            CHECK.due("its records", x.journal(3, 0), due);
        }
    }

    private static void kindsOfAnswers() {
        CHECK.about("1 ACCEPT, 2 REJECT and 4 CLOSED (ANSWERS)");
        for (int kind : KINDS) {
            RealmLogins x = Realm.answerToRelay();
            int due = kind == 1 || kind == 2 || kind == 4 ? 1 : 0;
            CHECK.due("the relay, from a home, kind " + kind, deliverAs(x, kind, 2, OWN), due);
            CHECK.due("what it hands on", x.flight(), due);
            x = Realm.answerToPoint();
            due = kind == 1 || kind == 2 ? 1 : 0;
            CHECK.due("an ASKING line, kind " + kind, deliverAs(x, kind, 0, 7), due);
            CHECK.due("is it ASKING still", x.line(0, 0, 0) == 1, due == 0);
            x = Realm.answerToClosing();
            due = kind == 4 ? 1 : 0;
            CHECK.due("a CLOSING line, kind " + kind, deliverAs(x, kind, 0, 8), due);
            CHECK.due("is it CLOSING still", x.line(0, 0, 0) == 3, due == 0);
        }
    }

    /** Delivers the datagram at place 0 as one of another kind that is right. */
    private static int deliverAs(RealmLogins x, int kind, int link, int auth) {
        x.forge(0, 0, kind - x.field(0, 0));
        Realm.reseal(x, 0, Realm.KEYS[link], auth);
        return x.deliver(0);
    }

    private static void sealTakesAnyInts() {
        CHECK.about("THE SEAL of a datagram FOR a key and an int x is "
                + "MIX(MIX(MIX(MIX(MIX(key, KIND), ID), x), A), B).");
        int[] usual = {Realm.CLOSE, 0, OWN, 0, 0};
        for (int f = 1; f < 5; f++) {
            for (int v : Edges.INTS) {
                int[] d = usual.clone();
                d[f] = v;
                RealmLogins x = Realm.askToHome();
                for (int i = 0; i < 5; i++) {
                    x.forge(0, i, d[i] - x.field(0, i));
                }
                int seal = Edges.seal(Realm.KEYS[2], d[0], d[1], d[2], d[3], d[4]);
                x.forge(0, 5, seal - x.field(0, 5));
                x.copy(0);
                x.forge(0, 5, 1);
                CHECK.due("field " + f + " is " + v + ", SEAL one more", x.deliver(0), 0);
                CHECK.due("field " + f + " is " + v, x.deliver(0), 1);
                x.sync(3);
                CHECK.due("SEAL of the answer", x.field(0, 5),
                        Edges.seal(Realm.KEYS[2], Realm.CLOSED, d[1], d[2], d[3], d[4]));
            }
        }
    }

    private static void requestIsRightForOneSeal() {
        CHECK.about("it is RIGHT when its field SEAL is its seal for the receiver's key and its own AUTH");
        rightForOneSeal("the relay", Realm::askToRelay, true);
        rightForOneSeal("a home", Realm::askToHome, true);
    }

    private static void requestIsSealedWithItsOwnAuth() {
        CHECK.about("A request is sent with its seal for the sender's key and its own AUTH");
        for (int auth : Edges.INTS) {
            RealmLogins x = Realm.peopled();
            x.login(0, 0, 0, 1000, auth);
            CHECK.due("AUTH of an ASK", x.field(0, 2), auth);
            CHECK.due("SEAL of an ASK", x.field(0, 5),
                    Edges.seal(Realm.KEYS[0], 0, 0, auth, 0, 1000 ^ Edges.mix(Realm.KEYS[0], auth)));
            Realm.settle(whileItGoesToItsHome(x), 3);
            x.logout(0, 0, auth);
            CHECK.due("AUTH of a CLOSE", x.field(0, 2), auth);
            CHECK.due("SEAL of a CLOSE", x.field(0, 5), Edges.seal(Realm.KEYS[0], 3, 1, auth, 0, 0));
            x.deliver(0);
            int own = Edges.mix(auth, 1);
            CHECK.due("AUTH of the relay's CLOSE", x.field(0, 2), own);
            CHECK.due("SEAL of the relay's CLOSE", x.field(0, 5), Edges.seal(Realm.KEYS[2], 3, 1, own, 0, 0));
        }
    }

    private static RealmLogins whileItGoesToItsHome(RealmLogins x) {
        x.deliver(0);
        x.deliver(0);
        return x;
    }

    private static void authOfAnAnswerIsSentAsZero() {
        CHECK.about("The AUTH of an answer is sent as 0");
        for (int draw : Edges.INTS) {
            RealmLogins x = Realm.peopled();
            x.login(0, 0, 0, 1000, draw);
            whileItGoesToItsHome(x);
            x.sync(3);
            CHECK.due("AUTH of a home's ACCEPT, draw " + draw, x.field(0, 2), 0);
            CHECK.due("SEAL of it", x.field(0, 5), Edges.seal(Realm.KEYS[2], 1, 0, Edges.mix(draw, 0), 0, 0));
            x.deliver(0);
            CHECK.due("AUTH of the relay's ACCEPT, draw " + draw, x.field(0, 2), 0);
            CHECK.due("SEAL of it", x.field(0, 5), Edges.seal(Realm.KEYS[0], 1, 0, draw, 0, 0));
            x.deliver(0);
            x.logout(0, 0, draw);
            whileItGoesToItsHome(x);
            x.sync(3);
            CHECK.due("AUTH of a home's CLOSED, draw " + draw, x.field(0, 2), 0);
            x.deliver(0);
            CHECK.due("AUTH of the relay's CLOSED, draw " + draw, x.field(0, 2), 0);
            CHECK.due("and it settles", x.deliver(0), 1);
        }
    }

    private static void authOfAnAnswerIsNotLookedAt() {
        CHECK.about("The AUTH of an answer .. is not looked at");
        for (int auth : Edges.INTS) {
            RealmLogins x = Realm.answerToRelay();
            x.forge(0, 2, auth);
            CHECK.due("the relay, AUTH " + auth, x.deliver(0), 1);
            CHECK.due("it sends 0 on", x.field(0, 2), 0);
            x.forge(0, 2, auth);
            CHECK.due("the point, AUTH " + auth, x.deliver(0), 1);
            x = Realm.answerToClosing();
            x.forge(0, 2, auth);
            CHECK.due("a CLOSING line, AUTH " + auth, x.deliver(0), 1);
        }
    }

    private static void answerIsRightForOneSeal() {
        CHECK.about("it is RIGHT when its SEAL is its seal for the receiver's key "
                + "and the AUTH that the receiver has for it");
        rightForOneSeal("the relay", Realm::answerToRelay, false);
        rightForOneSeal("an ASKING line", Realm::answerToPoint, false);
        rightForOneSeal("a CLOSING line", Realm::answerToClosing, false);
        RealmLogins x = Realm.answerToRelay();
        Realm.reseal(x, 0, Realm.KEYS[2], 7);
        CHECK.due("the relay, sealed for the AUTH of the point's request", x.deliver(0), 0);
        x = Realm.answerToPoint();
        Realm.reseal(x, 0, Realm.KEYS[0], OWN);
        CHECK.due("the point, sealed for the relay's own auth", x.deliver(0), 0);
        x = Realm.answerToClosing();
        Realm.reseal(x, 0, Realm.KEYS[0], 7);
        CHECK.due("a CLOSING line, sealed for the AUTH it had when ASKING", x.deliver(0), 0);
    }

    /** No two seals of one datagram are the same when one field differs, so each such change is dropped. */
    private static void rightForOneSeal(String who, Supplier<RealmLogins> made, boolean authCounts) {
        for (int f = 0; f < 6; f++) {
            for (int v : new int[] {1, -1, MIN, MAX}) {
                RealmLogins x = made.get();
                x.forge(0, f, v);
                x.copy(0);
                x.forge(1, f, -v);
                int due = f == 2 && !authCounts ? 1 : 0;
                CHECK.due(who + ", field " + f + " forged by " + v, x.deliver(0), due);
                if (due == 0) {
                    CHECK.due(who + ", field " + f + " forged by " + v + " and back", x.deliver(0), 1);
                }
            }
        }
    }
}
