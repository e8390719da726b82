/** Terms: a HOME with its addresses, sessions, journal and records; the same at both homes. */
public final class EdgesTermsHomeTest {
    private static final Check CHECK = new Check("EdgesTermsHomeTest");
    private static final int MIN = Edges.MIN;
    private static final int MAX = Edges.MAX;

    public static void main(String[] args) {
        for (int home = 3; home <= 4; home++) {
            addressesAre0To5(home);
            recordsAreAtMost40(home);
            firstRecordsAreDurable(home);
            requestIsKnownForTwentyTicks(home);
            requestIsKnownByKindIdAndAuth(home);
            latestRecordCounts(home);
            knownAndDurableIsAnsweredAgain(home);
            knownAndNotDurableDoesNothing(home);
            fullJournalKnowsStill(home);
            askOfNoUserIsRejected(home);
            askOfTheOtherHomesUserIsRejected(home);
            askOfOneWhoIsNotEnrolledIsRejected(home);
            askWithAnotherPasswordIsRejected(home);
            askAtTheLimitIsRejected(home);
            askWithoutAFreeAddressIsRejected(home);
            reasonsComeInTheirOrder(home);
            sessionHasTheLeastAddress(home);
            sessionHasTheNumberOfItsRecord(home);
            closeNeedsNumberAndUser(home);
            closeIsCountedOnce(home);
            answerHasTheIdOfItsRequest(home);
            answerIsTheRecordsFromThenOn(home);
        }
        CHECK.end();
    }

    private static void addressesAre0To5(int home) {
        CHECK.about("A HOME has ADDRESSES 0 .. 5");
        Desk desk = new Desk(home);
        CHECK.same("none", desk.held(), "-1 -1 -1 -1 -1 -1 | 0 0 0");
        for (int i = 0; i < 6; i++) {
            CHECK.due("an ASK", desk.ask(i, desk.user(i)), 1);
            CHECK.same("address " + i, desk.answer(), Desk.said(Realm.ACCEPT, i, i));
            CHECK.due("holder of " + i, desk.x.holder(home, i), desk.user(i));
        }
        CHECK.due("a seventh", desk.ask(6, desk.user(0)), 1);
        CHECK.same("no address 6", desk.answer(), Desk.said(Realm.REJECT, 3, 0));
        CHECK.due("holder of 6", desk.x.holder(home, 6), -1);
    }

    private static void recordsAreAtMost40(int home) {
        CHECK.about("a JOURNAL of RECORDS 0, 1, .., at most 40");
        Desk desk = new Desk(home);
        desk.ask(1, desk.user(0));
        desk.fill(1000, 38);
        CHECK.due("39 records", desk.x.journal(home, 0), 39);
        CHECK.due("an ASK makes the fortieth", desk.ask(2, desk.user(1)), 1);
        CHECK.due("40 records", desk.x.journal(home, 0), 40);
        CHECK.about("Not known: it is dropped when 40 records are there");
        CHECK.due("an ASK", desk.ask(3, desk.user(2)), 0);
        CHECK.due("a CLOSE", desk.close(3, desk.user(0), 0), 0);
        CHECK.same("nothing came of them", desk.held(),
                desk.user(0) + " " + desk.user(1) + " -1 -1 -1 -1 | 40 0 0");
        CHECK.due("nothing was sent", desk.x.flight(), 1);
        CHECK.due("all become durable", desk.x.sync(home), 40);
        desk.clear();
        CHECK.due("an ASK", desk.ask(3, desk.user(2)), 0);
        CHECK.due("nothing was sent", desk.x.flight(), 1);
    }

    private static void firstRecordsAreDurable(int home) {
        CHECK.about("of which the first so and so many are DURABLE");
        Desk desk = new Desk(home);
        desk.fill(1, 2);
        CHECK.due("none of 2", desk.x.journal(home, 1), 0);
        desk.x.sync(home);
        desk.clear();
        desk.fill(3, 2);
        CHECK.due("2 of 4", desk.x.journal(home, 1), 2);
        for (int record = 0; record < 4; record++) {
            CHECK.due("the request of record " + record, desk.close(1 + record, 0, 0), record < 2 ? 2 : 3);
        }
        desk.x.crash(home);
        CHECK.due("the first two stay", desk.x.journal(home, 0), 2);
    }

    private static void requestIsKnownForTwentyTicks(int home) {
        CHECK.about("when the clock was at most 20 less than it is now");
        for (int begin : new int[] {0, 1, 9}) {
            for (int later : new int[] {0, 1, 19, 20, 21, 22, 40}) {
                Desk desk = new Desk(home);
                tick(desk.x, begin);
                CHECK.due("an ASK", desk.ask(1, desk.user(0)), 1);
                CHECK.due("a CLOSE", desk.close(1, 0, 0), 1);
                tick(desk.x, later);
                int due = later <= 20 ? 3 : 1;
                CHECK.due("the ASK " + later + " ticks later", desk.ask(1, desk.user(0)), due);
                CHECK.due("the CLOSE " + later + " ticks later", desk.close(1, 0, 0), due);
                CHECK.due("records", desk.x.journal(home, 0), later <= 20 ? 2 : 4);
            }
        }
    }

    private static void tick(RealmLogins x, int times) {
        for (int i = 0; i < times; i++) {
            x.tick(1);
        }
    }

    private static void requestIsKnownByKindIdAndAuth(int home) {
        CHECK.about("it is KNOWN if a record was made by a request of the same KIND, ID and AUTH");
        for (int v : Edges.INTS) {
            Desk desk = new Desk(home);
            CHECK.due("a request", desk.bring(Realm.ASK, v, v, 0, 0), 1);
            CHECK.due("the same but for A and B", desk.bring(Realm.ASK, v, v, MIN, MAX), 3);
            CHECK.due("another KIND", desk.bring(Realm.CLOSE, v, v, 0, 0), 1);
            CHECK.due("another ID", desk.bring(Realm.ASK, v + 1, v, 0, 0), 1);
            CHECK.due("another AUTH", desk.bring(Realm.ASK, v, v + 1, 0, 0), 1);
            CHECK.due("the other home has a journal of its own", desk.x.journal(7 - home, 0), 0);
            CHECK.due("records", desk.x.journal(home, 0), 4);
        }
        Desk desk = new Desk(home);
        desk.ask(9, desk.user(0));
        desk.x.evict(home, 0);
        CHECK.due("an eviction was made by no request: ASK", desk.bring(Realm.ASK, 0, 0, 0, 0), 1);
        CHECK.due("an eviction was made by no request: CLOSE", desk.bring(Realm.CLOSE, 0, 0, 0, 0), 1);
        CHECK.due("the request before it is known", desk.ask(9, desk.user(0)), 3);
    }

    private static void latestRecordCounts(int home) {
        CHECK.about("the latest such record counts");
        Desk desk = new Desk(home);
        desk.ask(1, desk.user(0));
        CHECK.same("the first", desk.answer(), Desk.said(Realm.ACCEPT, 0, 0));
        tick(desk.x, 21);
        CHECK.due("not known any more", desk.ask(1, desk.user(0)), 1);
        CHECK.due("the latest is not durable", desk.ask(1, desk.user(0)), 3);
        CHECK.same("the second", desk.answer(), Desk.said(Realm.ACCEPT, 1, 1));
        CHECK.due("the latest is durable", desk.ask(1, desk.user(0)), 2);
        CHECK.due("A of the second", desk.x.field(1, 3), 1);
        desk.clear();
        tick(desk.x, 21);
        CHECK.due("not known any more", desk.ask(1, desk.user(0)), 1);
        desk.x.crash(home);
        CHECK.due("the third is gone, the others are too old", desk.ask(1, desk.user(0)), 1);
    }

    private static void knownAndDurableIsAnsweredAgain(int home) {
        CHECK.about("Known, and the record is durable: the record's answer is sent again.");
        Desk desk = new Desk(home);
        desk.ask(1, desk.user(0));
        desk.ask(2, desk.user(1), 0);
        desk.close(3, MIN, MAX);
        desk.x.sync(home);
        desk.clear();
        int[][] due = {{Realm.ACCEPT, 0, 0}, {Realm.REJECT, 1, 0}, {Realm.CLOSED, MIN, MAX}};
        for (int i = 0; i < 3; i++) {
            for (int time = 0; time < 2; time++) {
                CHECK.due("again", i == 2 ? desk.close(3, 5, 5) : desk.ask(1 + i, 7, 7), 2);
                CHECK.due("one is sent", desk.x.flight(), 2);
                CHECK.same("its answer", Realm.parts(desk.x, 1), Realm.datagram(
                        home, 2, desk.key, due[i][0], 0, 1 + i, due[i][1], due[i][2]));
                desk.clear();
            }
        }
        CHECK.same("nothing was done", desk.held(), desk.user(0) + " -1 -1 -1 -1 -1 | 3 3 0");
    }

    private static void knownAndNotDurableDoesNothing(int home) {
        CHECK.about("Known, and it is not durable: nothing is done.");
        Desk desk = new Desk(home);
        desk.ask(1, desk.user(0));
        desk.close(2, desk.user(1), 0);
        String before = Realm.look(desk.x);
        CHECK.due("the ASK again", desk.ask(1, desk.user(0)), 3);
        CHECK.due("the CLOSE again, now of an open session", desk.close(2, desk.user(0), 0), 3);
        CHECK.same("all that can be seen", Realm.look(desk.x), before);
        CHECK.due("they count once", desk.x.sync(home), 2);
    }

    private static void fullJournalKnowsStill(int home) {
        CHECK.about("Known .. Not known: it is dropped when 40 records are there");
        Desk desk = new Desk(home);
        desk.fill(1000, 30);
        desk.x.sync(home);
        desk.clear();
        desk.fill(1030, 10);
        CHECK.due("record 0 is durable", desk.bring(Realm.CLOSE, 0, 1000, 0, 0), 2);
        CHECK.due("record 29 is durable", desk.bring(Realm.CLOSE, 0, 1029, 0, 0), 2);
        CHECK.due("record 30 is not", desk.bring(Realm.CLOSE, 0, 1030, 0, 0), 3);
        CHECK.due("record 39 is not", desk.bring(Realm.CLOSE, 0, 1039, 0, 0), 3);
        CHECK.due("there is no record 40", desk.bring(Realm.CLOSE, 0, 1040, 0, 0), 0);
        tick(desk.x, 21);
        CHECK.due("not known any more", desk.bring(Realm.CLOSE, 0, 1000, 0, 0), 0);
    }

    private static void askOfNoUserIsRejected(int home) {
        CHECK.about("REJECT with A 1 and B 0, when A is no user");
        int auth = 1;
        for (int user : new int[] {-1, -2, 12, 13, MIN, MIN + 1, MAX, MAX - 1, 256, 257, 65536 + 11}) {
            Desk desk = new Desk(home);
            CHECK.due("an ASK of user " + user, desk.ask(auth, user), 1);
            CHECK.same("its answer", desk.answer(), Desk.said(Realm.REJECT, 1, 0));
            CHECK.due("an ASK with the password 0", desk.ask(auth + 1, user, 0), 1);
            CHECK.same("its answer", desk.answer(), Desk.said(Realm.REJECT, 1, 0));
            CHECK.same("no session", desk.held(), "-1 -1 -1 -1 -1 -1 | 2 2 0");
        }
    }

    private static void askOfTheOtherHomesUserIsRejected(int home) {
        CHECK.about("REJECT with A 1 and B 0, when .. this is not the home of A");
        for (int user = 0; user < 12; user++) {
            Desk desk = new Desk(home);
            CHECK.due("an ASK of user " + user, desk.ask(1, user), 1);
            boolean own = 3 + user % 2 == home;
            CHECK.same("its answer", desk.answer(), Desk.said(own ? Realm.ACCEPT : Realm.REJECT, own ? 0 : 1, 0));
        }
    }

    private static void askOfOneWhoIsNotEnrolledIsRejected(int home) {
        CHECK.about("REJECT with A 1 and B 0, when .. A is not enrolled");
        for (int number = 0; number < 6; number++) {
            RealmLogins x = Realm.keyed();
            for (int user = 0; user < 12; user++) {
                if (user != 2 * number + home - 3) {
                    x.enrol(user, 0, 6);
                }
            }
            Desk desk = new Desk(home, x);
            desk.ask(1, desk.user(number), 0);
            CHECK.same("user " + desk.user(number), desk.answer(), Desk.said(Realm.REJECT, 1, 0));
            desk.x.enrol(desk.user(number), 0, 6);
            desk.ask(2, desk.user(number), 0);
            CHECK.same("enrolled now", desk.answer(), Desk.said(Realm.ACCEPT, 1, 0));
        }
    }

    private static void askWithAnotherPasswordIsRejected(int home) {
        CHECK.about("REJECT with A 1 and B 0, when .. w is not the password of A");
        for (int password : Edges.INTS) {
            Desk desk = new Desk(home);
            int user = desk.user(5);
            desk.x.enrol(user, password, 6);
            int auth = 1;
            for (int off : new int[] {1, -1, MIN, MAX}) {
                desk.ask(auth, user, password + off);
                CHECK.same("off by " + off, desk.answer(), Desk.said(Realm.REJECT, 1, 0));
                auth++;
            }
            desk.ask(auth, user, password);
            CHECK.same("the password " + password, desk.answer(), Desk.said(Realm.ACCEPT, 4, 0));
        }
    }

    private static void askAtTheLimitIsRejected(int home) {
        CHECK.about("REJECT with A 2 and B 0, when the user's open sessions here are as many as "
                + "the user's limit or more");
        for (int limit = 0; limit <= 6; limit++) {
            Desk desk = new Desk(home);
            int user = desk.user(3);
            desk.x.enrol(user, 1000 + user, limit);
            for (int i = 0; i < limit; i++) {
                desk.ask(i, user);
                CHECK.same("limit " + limit + ", open " + i, desk.answer(), Desk.said(Realm.ACCEPT, i, i));
            }
            desk.ask(10, user);
            CHECK.same("limit " + limit + ", as many", desk.answer(), Desk.said(Realm.REJECT, 2, 0));
            if (limit > 0) {
                desk.x.enrol(user, 1000 + user, limit - 1);
                desk.ask(11, user);
                CHECK.same("limit " + limit + " before, more", desk.answer(), Desk.said(Realm.REJECT, 2, 0));
                desk.x.enrol(user, 1000 + user, limit);
                desk.close(12, user, 0);
                desk.answer();
                desk.ask(13, user);
                CHECK.same("one fewer again", desk.answer(), Desk.said(Realm.ACCEPT, limit + 3, 0));
            }
        }
        Desk desk = new Desk(home);
        desk.x.enrol(desk.user(0), 1000 + desk.user(0), 1);
        desk.ask(1, desk.user(1));
        desk.ask(2, desk.user(1));
        desk.x.sync(home);
        desk.clear();
        desk.ask(3, desk.user(0));
        CHECK.same("another user's sessions do not count", desk.answer(), Desk.said(Realm.ACCEPT, 2, 2));
    }

    private static void askWithoutAFreeAddressIsRejected(int home) {
        CHECK.about("REJECT with A 3 and B 0, when every address is one of an open session");
        Desk desk = new Desk(home);
        for (int i = 0; i < 5; i++) {
            desk.ask(i, desk.user(1));
        }
        desk.x.sync(home);
        desk.clear();
        desk.ask(5, desk.user(2));
        CHECK.same("five are taken", desk.answer(), Desk.said(Realm.ACCEPT, 5, 5));
        desk.ask(6, desk.user(2));
        CHECK.same("six are taken", desk.answer(), Desk.said(Realm.REJECT, 3, 0));
        desk.x.evict(home, 5);
        desk.x.sync(home);
        desk.ask(7, desk.user(2));
        CHECK.same("five are taken again", desk.answer(), Desk.said(Realm.ACCEPT, 8, 5));
    }

    private static void reasonsComeInTheirOrder(int home) {
        CHECK.about("Else REJECT with A 2 .. Else REJECT with A 3");
        Desk desk = new Desk(home);
        int user = desk.user(4);
        for (int i = 0; i < 6; i++) {
            desk.ask(i, user);
        }
        desk.x.sync(home);
        desk.clear();
        desk.ask(10, user, 0);
        CHECK.same("all three: the password comes first", desk.answer(), Desk.said(Realm.REJECT, 1, 0));
        desk.ask(11, user);
        CHECK.same("limit and address: the limit comes first", desk.answer(), Desk.said(Realm.REJECT, 2, 0));
        desk.ask(12, desk.user(0));
        CHECK.same("the address alone", desk.answer(), Desk.said(Realm.REJECT, 3, 0));
        desk.ask(13, desk.user(0), 0);
        CHECK.same("password and address: the password comes first", desk.answer(), Desk.said(Realm.REJECT, 1, 0));
        desk.x.enrol(desk.user(0), 5, 0);
        desk.ask(14, desk.user(0), 6);
        CHECK.same("password and limit: the password comes first", desk.answer(), Desk.said(Realm.REJECT, 1, 0));
    }

    private static void sessionHasTheLeastAddress(int home) {
        CHECK.about("its address the least that no open session has");
        for (int free = 0; free < 64; free++) {
            Desk desk = new Desk(home);
            int least = -1;
            for (int i = 0; i < 6; i++) {
                desk.ask(i, desk.user(0));
            }
            for (int i = 5; i >= 0; i--) {
                if ((free >> i & 1) != 0) {
                    desk.x.evict(home, i);
                    least = i;
                }
            }
            desk.x.sync(home);
            desk.clear();
            desk.ask(10, desk.user(1));
            int number = 6 + Integer.bitCount(free);
            CHECK.same("free by bits " + free, desk.answer(), least < 0
                    ? Desk.said(Realm.REJECT, 3, 0) : Desk.said(Realm.ACCEPT, number, least));
        }
    }

    private static void sessionHasTheNumberOfItsRecord(int home) {
        CHECK.about("its number is the record's");
        Desk desk = new Desk(home);
        desk.ask(1, desk.user(0));
        CHECK.same("record 0", desk.answer(), Desk.said(Realm.ACCEPT, 0, 0));
        desk.fill(1000, 37);
        desk.x.evict(home, 0);
        desk.x.sync(home);
        desk.clear();
        desk.ask(2, desk.user(1));
        CHECK.same("record 39", desk.answer(), Desk.said(Realm.ACCEPT, 39, 0));

        desk = new Desk(home);
        desk.fill(1000, 38);
        desk.x.sync(home);
        desk.clear();
        desk.ask(2, desk.user(1));
        desk.close(3, desk.user(1), 38);
        CHECK.same("a CLOSE of session 38 is record 39", desk.held(), "-1 -1 -1 -1 -1 -1 | 40 38 1");
    }

    private static void closeNeedsNumberAndUser(int home) {
        CHECK.about("an open session with the number B and the user A, if there is one, is open no more");
        for (int b : new int[] {MIN, -1, 0, 2, 3, 39, 40, 257, MAX}) {
            closesNothing(home, 0, b);
            closesNothing(home, 1, b);
        }
        for (int a : new int[] {-1, 12, MIN, MAX}) {
            Desk desk = new Desk(home);
            desk.ask(1, desk.user(1));
            CHECK.due("a CLOSE of user " + a, desk.close(2, a, 0), 1);
            CHECK.same("the session stays", desk.held(), desk.user(1) + " -1 -1 -1 -1 -1 | 2 0 0");
        }
    }

    /** Sessions 0 of user 1, 1 of user 0 and 2 of user 1, where b is not the number of one of this user. */
    private static void closesNothing(int home, int number, int b) {
        Desk desk = new Desk(home);
        int a = desk.user(number);
        int other = desk.user(1 - number);
        desk.ask(1, other);
        desk.ask(2, a);
        desk.ask(3, other);
        CHECK.due("a CLOSE with B " + b, desk.close(4, a, b), 1);
        CHECK.same("the sessions stay", desk.held(), other + " " + a + " " + other + " -1 -1 -1 | 4 0 0");
        CHECK.due("a CLOSE with B 1", desk.close(5, a, 1), 1);
        CHECK.same("session 1 alone is gone", desk.held(), other + " -1 " + other + " -1 -1 -1 | 5 0 1");
        desk.x.sync(home);
        CHECK.same("CLOSED all the same", Realm.parts(desk.x, 4),
                Realm.datagram(home, 2, desk.key, Realm.CLOSED, 0, 4, a, b));
    }

    private static void closeIsCountedOnce(int home) {
        CHECK.about("and is COUNTED");
        Desk desk = new Desk(home);
        for (int i = 0; i < 6; i++) {
            desk.ask(i, desk.user(i));
        }
        for (int i = 0; i < 6; i++) {
            CHECK.due("counted", desk.x.journal(home, 2), i);
            CHECK.due("a CLOSE of session " + i, desk.close(10 + i, desk.user(i), i), 1);
            CHECK.due("known: it counts once", desk.close(10 + i, desk.user(i), i), 3);
            CHECK.due("it is open no more: it counts once", desk.close(20 + i, desk.user(i), i), 1);
        }
        CHECK.same("six were counted", desk.held(), "-1 -1 -1 -1 -1 -1 | 18 0 6");
    }

    private static void answerHasTheIdOfItsRequest(int home) {
        CHECK.about("The answer's ID is the request's, its seal is for the request's AUTH; it goes to the relay");
        for (int v : Edges.INTS) {
            Desk desk = new Desk(home);
            desk.bring(Realm.CLOSE, v, ~v, v, ~v);
            CHECK.due("not before the record is durable", desk.x.flight(), 1);
            desk.x.sync(home);
            CHECK.same("the answer", Realm.parts(desk.x, 1),
                    Realm.datagram(home, 2, desk.key, Realm.CLOSED, v, ~v, v, ~v));
        }
    }

    private static void answerIsTheRecordsFromThenOn(int home) {
        CHECK.about("otherwise it makes a record, with an answer", "what comes later does not change it");
        Desk desk = new Desk(home);
        int user = desk.user(2);
        desk.ask(1, user, 0);
        desk.x.enrol(user, 0, 6);
        CHECK.same("rejected, enrolled with that password, then durable", desk.answer(), Desk.said(Realm.REJECT, 1, 0));
        desk.ask(2, user, 0);
        desk.x.enrol(user, 5, 0);
        CHECK.same("accepted, enrolled otherwise, then durable", desk.answer(), Desk.said(Realm.ACCEPT, 1, 0));
        desk.ask(3, user, 5);
        desk.x.enrol(user, 5, 6);
        desk.x.evict(home, 0);
        CHECK.due("both become durable", desk.x.sync(home), 2);
        CHECK.due("rejected at the limit, and so it stays: KIND", desk.x.field(1, 0), Realm.REJECT);
        CHECK.due("rejected at the limit, and so it stays: A", desk.x.field(1, 3), 2);
        desk.clear();
        for (int auth = 1; auth <= 3; auth++) {
            CHECK.due("the request is known", desk.ask(auth, user, 5), 2);
            CHECK.due("KIND", desk.x.field(auth, 0), auth == 2 ? Realm.ACCEPT : Realm.REJECT);
            CHECK.due("A", desk.x.field(auth, 3), auth == 3 ? 2 : 1);
        }
        CHECK.same("and no session came of it", desk.held(), "-1 -1 -1 -1 -1 -1 | 4 4 0");
    }
}
