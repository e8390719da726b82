/** Promise 18: journal. */
public final class Edges18JournalTest {
    private static final Check CHECK = new Check("Edges18JournalTest");
    private static final Refusals REFUSALS = new Refusals(CHECK);

    public static void main(String[] args) {
        for (int home = 3; home <= 4; home++) {
            from0To40(home);
            counted(home);
            homesAreApart(home);
        }
        noneForNoHome();
        noneForOtherWhich();
        CHECK.end();
    }

    private static void journal(RealmLogins x, int home, int... due) {
        for (int which = 0; which < 3; which++) {
            CHECK.due("journal(" + home + ", " + which + ")", x.journal(home, which), due[which]);
        }
    }

    private static void from0To40(int home) {
        CHECK.about("0 the number of its records, 1 how many of them are durable");
        Desk desk = new Desk(home);
        journal(desk.x, home, 0, 0, 0);
        for (int count = 1; count <= 40; count++) {
            desk.fill(1000 + count, 1);
            if (count == 1 || count == 39) {
                journal(desk.x, home, count, 0, 0);
            }
        }
        journal(desk.x, home, 40, 0, 0);
        desk.fill(2000, 1);
        journal(desk.x, home, 40, 0, 0);
        desk.x.sync(home);
        journal(desk.x, home, 40, 40, 0);
        desk.x.crash(home);
        journal(desk.x, home, 40, 40, 0);
    }

    private static void counted(int home) {
        CHECK.about("2 how many sessions were counted");
        Desk desk = new Desk(home);
        for (int i = 0; i < 16; i++) {
            desk.ask(2 * i, desk.user(i % 6));
            journal(desk.x, home, 2 * i + 1, 0, i);
            desk.close(2 * i + 1, desk.user(i % 6), 2 * i);
            journal(desk.x, home, 2 * i + 2, 0, i + 1);
        }
        desk.x.crash(home);
        journal(desk.x, home, 0, 0, 0);
    }

    private static void homesAreApart(int home) {
        CHECK.about("Of a home");
        Desk desk = new Desk(home);
        desk.ask(1, desk.user(0));
        desk.close(2, desk.user(0), 0);
        desk.x.sync(home);
        journal(desk.x, home, 2, 2, 1);
        journal(desk.x, 7 - home, 0, 0, 0);
    }

    private static void noneForNoHome() {
        CHECK.about("NONE when the station is no home");
        for (int station : Edges.outside(3, 4)) {
            for (int which : new int[] {0, 1, 2}) {
                REFUSALS.none("journal(" + station + ", " + which + ")", x -> x.journal(station, which));
            }
        }
        REFUSALS.none("journal(0, 0)", x -> x.journal(0, 0));
        REFUSALS.none("journal(1, 1)", x -> x.journal(1, 1));
    }

    private static void noneForOtherWhich() {
        CHECK.about("NONE when .. which is not 0 .. 2");
        for (int which : Edges.outside(0, 2)) {
            REFUSALS.none("journal(3, " + which + ")", x -> x.journal(3, which));
            REFUSALS.none("journal(4, " + which + ")", x -> x.journal(4, which));
        }
    }
}
