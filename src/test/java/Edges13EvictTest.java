/** Promise 13: evict. */
public final class Edges13EvictTest {
    private static final Check CHECK = new Check("Edges13EvictTest");
    private static final Refusals REFUSALS = new Refusals(CHECK);

    public static void main(String[] args) {
        for (int home = 3; home <= 4; home++) {
            everyAddress(home);
            makesARecord(home);
            isNotCounted(home);
            fortiethRecord(home);
            goesWithACrash(home);
        }
        falseForNoHome();
        falseForNoAddress();
        falseWithoutAnOpenSession();
        falseWhen40RecordsAreThere();
        CHECK.end();
    }

    private static Desk sixOpen(int home) {
        Desk desk = new Desk(home);
        for (int i = 0; i < 6; i++) {
            desk.ask(i, desk.user(i));
        }
        return desk;
    }

    private static void everyAddress(int home) {
        CHECK.about("by which the open session with this address is open no more");
        for (int address = 0; address < 6; address++) {
            Desk desk = sixOpen(home);
            CHECK.due("evict", desk.x.evict(home, address), true);
            for (int i = 0; i < 6; i++) {
                CHECK.due("holder of " + i, desk.x.holder(home, i), i == address ? -1 : desk.user(i));
            }
            CHECK.due("evict again", desk.x.evict(home, address), false);
            desk.ask(10, desk.user(0));
            CHECK.due("the address is free", desk.x.holder(home, address), desk.user(0));
        }
    }

    private static void makesARecord(int home) {
        CHECK.about("Makes a record without an answer");
        Desk desk = sixOpen(home);
        desk.x.sync(home);
        desk.clear();
        for (int address = 0; address < 6; address++) {
            CHECK.due("evict", desk.x.evict(home, address), true);
            CHECK.due("records", desk.x.journal(home, 0), 7 + address);
            CHECK.due("durable", desk.x.journal(home, 1), 6);
        }
        CHECK.due("nothing is sent", desk.x.flight(), 1);
        CHECK.due("sync", desk.x.sync(home), 6);
        CHECK.due("nothing is sent", desk.x.flight(), 1);
        desk.ask(20, desk.user(0));
        CHECK.same("the next record's number", desk.answer(), Desk.said(Realm.ACCEPT, 12, 0));
    }

    private static void isNotCounted(int home) {
        CHECK.about("(it is not counted)");
        Desk desk = sixOpen(home);
        desk.x.evict(home, 5);
        CHECK.due("counted", desk.x.journal(home, 2), 0);
        desk.close(10, desk.user(5), 5);
        CHECK.due("a CLOSE of what was evicted is not counted", desk.x.journal(home, 2), 0);
        desk.close(11, desk.user(4), 4);
        CHECK.due("a CLOSE of what is open is", desk.x.journal(home, 2), 1);
        desk.x.evict(home, 0);
        CHECK.due("an eviction takes nothing away", desk.x.journal(home, 2), 1);
    }

    private static void fortiethRecord(int home) {
        CHECK.about("False when .. 40 records are there");
        Desk desk = new Desk(home);
        desk.ask(1, desk.user(0));
        desk.ask(2, desk.user(1));
        desk.fill(1000, 37);
        CHECK.due("39 are there", desk.x.evict(home, 1), true);
        CHECK.due("40 are there", desk.x.evict(home, 0), false);
        CHECK.same("one was evicted", desk.held(), desk.user(0) + " -1 -1 -1 -1 -1 | 40 0 0");
        CHECK.due("sync", desk.x.sync(home), 40);
        CHECK.due("40 are there", desk.x.evict(home, 0), false);
    }

    private static void goesWithACrash(int home) {
        CHECK.about("Makes a record", "it goes with a crash when it is not durable");
        Desk desk = sixOpen(home);
        desk.x.sync(home);
        desk.x.evict(home, 0);
        desk.x.sync(home);
        desk.x.evict(home, 5);
        desk.x.crash(home);
        CHECK.due("durable", desk.x.holder(home, 0), -1);
        CHECK.due("not durable", desk.x.holder(home, 5), desk.user(5));
        CHECK.due("evict again", desk.x.evict(home, 5), true);
    }

    private static void falseForNoHome() {
        CHECK.about("False when the station is no home");
        for (int station : Edges.outside(3, 4)) {
            for (int address : new int[] {0, 1, 5}) {
                REFUSALS.no("evict(" + station + ", " + address + ")", x -> x.evict(station, address));
            }
        }
        REFUSALS.no("evict(0, 0)", x -> x.evict(0, 0));
        REFUSALS.no("evict(1, 1)", x -> x.evict(1, 1));
    }

    private static void falseForNoAddress() {
        CHECK.about("False when .. no open session has the address", "no address");
        for (int address : Edges.outside(0, 5)) {
            REFUSALS.no("evict(3, " + address + ")", x -> x.evict(3, address));
            REFUSALS.no("evict(4, " + address + ")", x -> x.evict(4, address));
        }
    }

    private static void falseWithoutAnOpenSession() {
        CHECK.about("False when .. no open session has the address", "a free address");
        for (int i = 0; i < 6; i++) {
            int address = i;
            REFUSALS.noIn(State.NEW, "evict(3, " + address + ")", x -> x.evict(3, address));
            REFUSALS.noIn(State.NEW, "evict(4, " + address + ")", x -> x.evict(4, address));
            REFUSALS.noIn(State.FULL, "evict(4, " + address + ")", x -> x.evict(4, address));
            if (i > 0) {
                REFUSALS.noIn(State.BUSY, "evict(3, " + address + ")", x -> x.evict(3, address));
            }
            if (i != 1) {
                REFUSALS.noIn(State.BUSY, "evict(4, " + address + ")", x -> x.evict(4, address));
            }
        }
    }

    private static void falseWhen40RecordsAreThere() {
        CHECK.about("False when .. 40 records are there", "it changes nothing");
        for (int i = 0; i < 6; i++) {
            int address = i;
            REFUSALS.noIn(State.FULL, "evict(3, " + address + ")", x -> x.evict(3, address));
        }
    }
}
