/** Promise 12: crash. */
public final class Edges12CrashTest {
    private static final Check CHECK = new Check("Edges12CrashTest");

    public static void main(String[] args) {
        pointsLinesBecomeIdle();
        pointHasGivenOutNoId();
        crashAtTheBeginning();
        relaysEntriesAreEmpty();
        relaysNumberGoesOn();
        for (int home = 3; home <= 4; home++) {
            recordsThatAreNotDurableAreGone(home);
            allRecordsMayGo(home);
            allRecordsMayStay(home);
            fullJournalHasPlacesAgain(home);
            sessionsAreWhatTheOthersMakeOfThem(home);
            countedIsWhatTheOthersMakeOfIt(home);
            enrolDoesNotChangeWhatTheyMake(home);
            sessionsTakeTheirAddressesAgain(home);
            goneRequestsAreNotKnown(home);
        }
        restStays();
        falseForNoStation();
        CHECK.end();
    }

    private static void pointsLinesBecomeIdle() {
        CHECK.about("A point: all its lines become IDLE with the verdict 0");
        for (int point = 0; point < 2; point++) {
            RealmLogins x = State.BUSY.make();
            RealmLogins y = State.BUSY.make();
            CHECK.due("crash", x.crash(point), true);
            int[] due = {0, 0, -1, -1, -1};
            for (int i = 0; i < 40; i++) {
                int p = i / 20;
                int line = i / 5 % 4;
                int which = i % 5;
                CHECK.due("line(" + p + ", " + line + ", " + which + ")", x.line(p, line, which),
                        p == point ? due[which] : y.line(p, line, which));
            }
            CHECK.due("what is in flight stays", x.flight(), 6);
        }
    }

    private static void pointHasGivenOutNoId() {
        CHECK.about("it is as if it had given out no ID");
        for (int point = 0; point < 2; point++) {
            RealmLogins x = Realm.keyed();
            for (int line = 0; line < 4; line++) {
                x.login(point, line, 0, 0, line);
                x.login(1 - point, line, 0, 0, line);
            }
            x.crash(point);
            for (int line = 3; line >= 0; line--) {
                CHECK.due("an ID from 0 on", x.login(point, line, 0, 0, line), 3 - line);
            }
            x.crash(1 - point);
            CHECK.due("and at the other", x.login(1 - point, 2, 0, 0, 0), 0);
        }
    }

    private static void crashAtTheBeginning() {
        CHECK.about("boolean crash(int station)", "at the beginning");
        RealmLogins x = new RealmLogins();
        for (int station = 0; station < 5; station++) {
            CHECK.due("crash(" + station + ")", x.crash(station), true);
        }
        CHECK.same("all is as at the beginning", Realm.look(x), Realm.look(new RealmLogins()));
    }

    private static void relaysEntriesAreEmpty() {
        CHECK.about("The relay: all entries are empty and it is as if none was made");
        for (int count = 1; count <= 8; count++) {
            RealmLogins x = Realm.keyed();
            for (int i = 0; i < count; i++) {
                x.login(i / 4, i % 4, 0, 0, i);
            }
            for (int i = 0; i < 2 * count; i++) {
                x.deliver(0);
            }
            x.sync(3);
            CHECK.due("crash", x.crash(2), true);
            for (int i = 0; i < count; i++) {
                CHECK.due("entry " + i + " of " + count + " is not there", x.deliver(0), 0);
            }
            x.tick(5);
            for (int i = 0; i < count; i++) {
                CHECK.due("a request is not used again", x.deliver(0), 1);
                CHECK.due("its entry", x.field(count - 1, 1), i);
            }
        }
    }

    private static void relaysNumberGoesOn() {
        CHECK.about("but the number of entries made goes on");
        RealmLogins x = Realm.askToRelay();
        Realm.copyUpTo(x, 12);
        for (int n = 0; n < 12; n++) {
            CHECK.due("an entry is made", x.deliver(0), 1);
            CHECK.due("its place", x.field(11, 1), 0);
            CHECK.due("its own auth", x.field(11, 2), Edges.mix(7, n));
            CHECK.due("crash", x.crash(2), true);
        }
    }

    private static void recordsThatAreNotDurableAreGone(int home) {
        CHECK.about("A home: the records that are not durable are gone");
        for (int durable = 0; durable <= 3; durable++) {
            for (int more = 0; more <= 3; more++) {
                Desk desk = new Desk(home);
                desk.fill(100, durable);
                desk.x.sync(home);
                desk.clear();
                desk.fill(200, more);
                CHECK.due("records", desk.x.journal(home, 0), durable + more);
                CHECK.due("crash", desk.x.crash(home), true);
                CHECK.due("records", desk.x.journal(home, 0), durable);
                CHECK.due("durable", desk.x.journal(home, 1), durable);
                CHECK.due("nothing more becomes durable", desk.x.sync(home), 0);
                CHECK.due("what is in flight stays", desk.x.flight(), 1);
            }
        }
    }

    private static void allRecordsMayGo(int home) {
        CHECK.about("the records that are not durable are gone", "all 40 of them");
        Desk desk = new Desk(home);
        for (int i = 0; i < 6; i++) {
            desk.ask(i, desk.user(i));
        }
        desk.close(10, desk.user(0), 0);
        desk.fill(1000, 33);
        CHECK.due("records", desk.x.journal(home, 0), 40);
        desk.x.crash(home);
        CHECK.same("all is empty", desk.held(), "-1 -1 -1 -1 -1 -1 | 0 0 0");
        desk.ask(0, desk.user(3));
        CHECK.same("from record 0 on", desk.answer(), Desk.said(Realm.ACCEPT, 0, 0));
    }

    private static void allRecordsMayStay(int home) {
        CHECK.about("the records that are not durable are gone", "none of 40");
        Desk desk = new Desk(home);
        for (int i = 0; i < 6; i++) {
            desk.ask(i, desk.user(i));
        }
        desk.close(10, desk.user(0), 0);
        desk.fill(1000, 33);
        desk.x.sync(home);
        String before = desk.held();
        desk.x.crash(home);
        CHECK.same("all is as before", desk.held(), before);
        desk.clear();
        CHECK.due("40 are there", desk.close(11, 0, 0), 0);
    }

    private static void fullJournalHasPlacesAgain(int home) {
        CHECK.about("the records that are not durable are gone", "1 of 40");
        Desk desk = new Desk(home);
        desk.fill(1000, 39);
        desk.x.sync(home);
        desk.clear();
        desk.ask(1, desk.user(0));
        CHECK.due("40 are there", desk.ask(2, desk.user(1)), 0);
        desk.x.crash(home);
        CHECK.due("39 are there", desk.ask(2, desk.user(1)), 1);
        CHECK.due("40 are there", desk.ask(1, desk.user(0)), 0);
        CHECK.same("the new one has its number", desk.answer(), Desk.said(Realm.ACCEPT, 39, 0));
    }

    /** Seven records, the first of which are durable, and what they make of the sessions. */
    private static void sessionsAreWhatTheOthersMakeOfThem(int home) {
        CHECK.about("the sessions and what was counted are what the others make of them");
        for (int durable = 0; durable <= 7; durable++) {
            Desk desk = new Desk(home);
            String due = desk.held();
            for (int record = 0; record < 7; record++) {
                makeRecord(desk, record);
                if (record == durable - 1) {
                    desk.x.sync(home);
                    desk.clear();
                    due = desk.held();
                }
            }
            CHECK.due("records", desk.x.journal(home, 0), 7);
            desk.x.enrol(desk.user(0), 0, 0);
            CHECK.due("crash", desk.x.crash(home), true);
            CHECK.same(durable + " of 7 are durable", desk.held(), due);
            CHECK.due("crash again", desk.x.crash(home), true);
            CHECK.same(durable + " of 7 are durable", desk.held(), due);
        }
    }

    private static void makeRecord(Desk desk, int record) {
        switch (record) {
            case 2:
                desk.x.evict(desk.home, 0);
                break;
            case 4:
                desk.close(4, desk.user(1), 1);
                break;
            case 6:
                desk.close(6, desk.user(5), 5);
                break;
            default:
                desk.ask(record, desk.user(record));
                break;
        }
    }

    private static void countedIsWhatTheOthersMakeOfIt(int home) {
        CHECK.about("what was counted");
        Desk desk = new Desk(home);
        desk.ask(1, desk.user(0));
        desk.ask(2, desk.user(1));
        desk.close(3, desk.user(0), 0);
        desk.x.sync(home);
        desk.clear();
        desk.close(4, desk.user(1), 1);
        CHECK.same("before", desk.held(), "-1 -1 -1 -1 -1 -1 | 4 3 2");
        desk.x.crash(home);
        CHECK.same("after", desk.held(), "-1 " + desk.user(1) + " -1 -1 -1 -1 | 3 3 1");
        desk.close(5, desk.user(1), 1);
        CHECK.same("it is counted when it is closed again", desk.held(), "-1 -1 -1 -1 -1 -1 | 4 3 2");
        CHECK.due("crash", desk.x.crash(home), true);
        desk.x.evict(home, 1);
        CHECK.same("an eviction does not count", desk.held(), "-1 -1 -1 -1 -1 -1 | 4 3 1");
    }

    /** An answer is its record's from the beginning: who is enrolled now, and how, is not asked anew. */
    private static void enrolDoesNotChangeWhatTheyMake(int home) {
        CHECK.about("the sessions and what was counted are what the others make of them", "enrol does not count");
        for (int limit = 0; limit <= 6; limit++) {
            for (int password : new int[] {0, 1000 + home - 3}) {
                Desk desk = deskOfEachAnswer(home);
                String before = desk.held();
                desk.x.enrol(desk.user(0), password, limit);
                desk.x.enrol(desk.user(1), password, limit);
                CHECK.same("enrol changes no session", desk.held(), before);
                CHECK.due("crash", desk.x.crash(home), true);
                CHECK.same("after enrol with limit " + limit, desk.held(), before);
                int[][] due = {{Realm.REJECT, 1}, {Realm.ACCEPT, 1}, {Realm.REJECT, 2}, {Realm.ACCEPT, 3}};
                for (int record = 0; record < due.length; record++) {
                    CHECK.due("the request is known", desk.ask(record, desk.user(0)), 2);
                    CHECK.due("KIND of answer " + record, desk.x.field(1, 0), due[record][0]);
                    CHECK.due("A of answer " + record, desk.x.field(1, 3), due[record][1]);
                    desk.clear();
                }
            }
        }
    }

    /** Durable: user 0 is turned away, let in, turned away at the limit; user 1 is let in and closed. */
    private static Desk deskOfEachAnswer(int home) {
        Desk desk = new Desk(home);
        desk.x.enrol(desk.user(0), 1000 + desk.user(0), 1);
        desk.ask(0, desk.user(0), 0);
        desk.ask(1, desk.user(0));
        desk.ask(2, desk.user(0));
        desk.ask(3, desk.user(1));
        desk.close(4, desk.user(1), 3);
        CHECK.due("become durable", desk.x.sync(home), 5);
        desk.clear();
        CHECK.same("held", desk.held(), desk.user(0) + " -1 -1 -1 -1 -1 | 5 5 1");
        return desk;
    }

    /** What is gone may have freed an address, and what came behind may have taken it. */
    private static void sessionsTakeTheirAddressesAgain(int home) {
        CHECK.about("the sessions and what was counted are what the others make of them", "with their addresses");
        Desk desk = new Desk(home);
        for (int i = 0; i < 6; i++) {
            desk.ask(i, desk.user(i));
        }
        desk.x.sync(home);
        desk.clear();
        String before = desk.held();
        desk.x.evict(home, 4);
        desk.close(10, desk.user(2), 2);
        desk.ask(11, desk.user(0));
        desk.ask(12, desk.user(1));
        CHECK.due("address 2 has another user", desk.x.holder(home, 2), desk.user(0));
        CHECK.due("address 4 has another user", desk.x.holder(home, 4), desk.user(1));
        desk.x.crash(home);
        CHECK.same("each has the user of before", desk.held(), before);
        desk.close(13, desk.user(2), 2);
        CHECK.due("and the number of before", desk.x.holder(home, 2), -1);
        CHECK.due("so that it is counted", desk.x.journal(home, 2), 1);
        desk.ask(14, desk.user(3));
        CHECK.due("the least address that is free", desk.x.holder(home, 2), desk.user(3));
    }

    private static void goneRequestsAreNotKnown(int home) {
        CHECK.about("the records that are not durable are gone", "their requests are not known");
        Desk desk = new Desk(home);
        desk.close(1, 0, 0);
        desk.x.sync(home);
        desk.clear();
        desk.close(2, 0, 0);
        desk.x.crash(home);
        CHECK.due("durable, known", desk.close(1, 0, 0), 2);
        CHECK.due("gone, not known", desk.close(2, 0, 0), 1);
        CHECK.due("known now", desk.close(2, 0, 0), 3);
        desk.x.tick(10);
        desk.x.tick(10);
        CHECK.due("the time of a durable record stays, 20 ticks", desk.close(1, 0, 0), 2);
        desk.x.tick(1);
        CHECK.due("the time of a durable record stays, 21 ticks", desk.close(1, 0, 0), 1);
    }

    private static void restStays() {
        CHECK.about("boolean crash(int station)", "what it does not name stays");
        for (int station = 0; station < 5; station++) {
            RealmLogins x = State.BUSY.make();
            x.crash(station);
            String[] seen = Realm.look(x).split(" (?=line|home)");
            String[] before = Realm.look(State.BUSY.make()).split(" (?=line|home)");
            for (int i = 0; i < seen.length; i++) {
                boolean ofPoint = station < 2 && i >= 1 + 4 * station && i < 5 + 4 * station;
                boolean ofHome = station > 2 && i == 6 + station;
                if (!ofPoint && !ofHome) {
                    CHECK.same("after crash(" + station + ")", seen[i], before[i]);
                }
            }
        }
        RealmLogins x = Realm.peopled();
        for (int station = 0; station < 5; station++) {
            x.crash(station);
        }
        Realm.letIn(x, 0, 0, 0, 1);
        Realm.letIn(x, 0, 1, 11, 1);
        CHECK.due("users and keys stay", x.line(0, 0, 1), 1);
        CHECK.due("users and keys stay", x.line(0, 1, 1), 1);
    }

    private static void falseForNoStation() {
        CHECK.about("False when there is no such station");
        Refusals refusals = new Refusals(CHECK);
        for (int station : Edges.outside(0, 4)) {
            refusals.no("crash(" + station + ")", x -> x.crash(station));
        }
    }
}
