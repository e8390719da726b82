/** Promise 17: holder. */
public final class Edges17HolderTest {
    private static final Check CHECK = new Check("Edges17HolderTest");
    private static final Refusals REFUSALS = new Refusals(CHECK);

    public static void main(String[] args) {
        for (int home = 3; home <= 4; home++) {
            everyAddressAndUser(home);
            homesAreApart(home);
            whenASessionComesAndGoes(home);
        }
        noneWhenThereIsNone();
        noneForNoHome();
        noneForOtherAddresses();
        CHECK.end();
    }

    private static void everyAddressAndUser(int home) {
        CHECK.about("The user of the open session with this address");
        Desk desk = new Desk(home);
        for (int i = 0; i < 6; i++) {
            CHECK.due("none yet at " + i, desk.x.holder(home, i), -1);
            desk.ask(i, desk.user(5 - i));
            CHECK.due("holder of " + i, desk.x.holder(home, i), desk.user(5 - i));
        }
        for (int i = 0; i < 6; i++) {
            CHECK.due("holder of " + i, desk.x.holder(home, i), desk.user(5 - i));
        }
    }

    private static void homesAreApart(int home) {
        CHECK.about("The user of the open session with this address", "of this home alone");
        Desk desk = new Desk(home);
        desk.ask(1, desk.user(0));
        for (int address = 0; address < 6; address++) {
            CHECK.due("at the other home", desk.x.holder(7 - home, address), -1);
        }
    }

    private static void whenASessionComesAndGoes(int home) {
        CHECK.about("NONE when there is none", "a session that is open no more");
        Desk desk = new Desk(home);
        desk.ask(1, desk.user(0));
        CHECK.due("open, though not durable", desk.x.holder(home, 0), desk.user(0));
        desk.close(2, desk.user(0), 0);
        CHECK.due("closed, though not durable", desk.x.holder(home, 0), -1);
        desk.ask(3, desk.user(5));
        CHECK.due("the next user", desk.x.holder(home, 0), desk.user(5));
        desk.x.evict(home, 0);
        CHECK.due("evicted", desk.x.holder(home, 0), -1);
        desk.ask(4, desk.user(5));
        desk.x.crash(home);
        CHECK.due("gone with a crash", desk.x.holder(home, 0), -1);
    }

    private static void noneWhenThereIsNone() {
        CHECK.about("NONE when there is none");
        for (int i = 0; i < 6; i++) {
            int address = i;
            REFUSALS.noneIn(State.NEW, "holder(3, " + address + ")", x -> x.holder(3, address));
            REFUSALS.noneIn(State.NEW, "holder(4, " + address + ")", x -> x.holder(4, address));
            REFUSALS.noneIn(State.FULL, "holder(4, " + address + ")", x -> x.holder(4, address));
        }
    }

    private static void noneForNoHome() {
        CHECK.about("NONE when .. the station is no home");
        for (int station : Edges.outside(3, 4)) {
            for (int address : new int[] {0, 5}) {
                REFUSALS.none("holder(" + station + ", " + address + ")", x -> x.holder(station, address));
            }
        }
        REFUSALS.none("holder(0, 0)", x -> x.holder(0, 0));
        REFUSALS.none("holder(1, 0)", x -> x.holder(1, 0));
    }

    private static void noneForOtherAddresses() {
        CHECK.about("NONE when .. the address is not 0 .. 5");
        for (int address : Edges.outside(0, 5)) {
            REFUSALS.none("holder(3, " + address + ")", x -> x.holder(3, address));
            REFUSALS.none("holder(4, " + address + ")", x -> x.holder(4, address));
        }
    }
}
