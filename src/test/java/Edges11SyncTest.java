/** Promise 11: sync. */
public final class Edges11SyncTest {
    private static final Check CHECK = new Check("Edges11SyncTest");

    public static void main(String[] args) {
        for (int home = 3; home <= 4; home++) {
            nothingToDo(home);
            allRecordsBecomeDurable(home);
            fortyBecomeDurable(home);
            answersAreSentInOrder(home);
            onlyThoseThatWereNotDurableAreSent(home);
            evictionsHaveNoAnswer(home);
            theOtherHomeStays(home);
        }
        noneForNoHome();
        CHECK.end();
    }

    private static void nothingToDo(int home) {
        CHECK.about("Answers how many became durable", "0 when all are durable already");
        Desk desk = new Desk(home);
        CHECK.due("no record", desk.x.sync(home), 0);
        desk.fill(1, 2);
        CHECK.due("two records", desk.x.sync(home), 2);
        String before = Realm.look(desk.x);
        CHECK.due("two that are durable", desk.x.sync(home), 0);
        CHECK.same("nothing is sent", Realm.look(desk.x), before);
        desk.x.crash(home);
        CHECK.due("after a crash", desk.x.sync(home), 0);
        CHECK.same("nothing is sent", Realm.look(desk.x), before);
    }

    private static void allRecordsBecomeDurable(int home) {
        CHECK.about("All records of the home become durable");
        Desk desk = new Desk(home);
        int all = 0;
        for (int more = 1; more <= 4; more++) {
            desk.fill(100 * more, more);
            all += more;
            CHECK.due("records", desk.x.journal(home, 0), all);
            CHECK.due("durable", desk.x.journal(home, 1), all - more);
            CHECK.due("sync", desk.x.sync(home), more);
            CHECK.due("records", desk.x.journal(home, 0), all);
            CHECK.due("durable", desk.x.journal(home, 1), all);
            desk.clear();
        }
    }

    private static void fortyBecomeDurable(int home) {
        CHECK.about("All records of the home become durable", "40 at once");
        Desk desk = new Desk(home);
        desk.fill(1000, 40);
        CHECK.due("sync", desk.x.sync(home), 40);
        CHECK.due("durable", desk.x.journal(home, 1), 40);
        CHECK.due("what finds a place is sent", desk.x.flight(), 24);
        desk.x.crash(home);
        CHECK.due("all stay", desk.x.journal(home, 0), 40);
    }

    private static void answersAreSentInOrder(int home) {
        CHECK.about("the answers of those that were not, if they have one, are sent in the order of the records");
        Desk desk = new Desk(home);
        for (int i = 0; i < 23; i++) {
            desk.close(100 - i, i, -i);
        }
        CHECK.due("sync", desk.x.sync(home), 23);
        CHECK.due("flight", desk.x.flight(), 24);
        for (int i = 0; i < 23; i++) {
            CHECK.same("answer " + i, Realm.parts(desk.x, 1 + i),
                    Realm.datagram(home, 2, desk.key, Realm.CLOSED, 0, 100 - i, i, -i));
        }
    }

    private static void onlyThoseThatWereNotDurableAreSent(int home) {
        CHECK.about("the answers of those that were not");
        Desk desk = new Desk(home);
        desk.fill(1, 3);
        desk.x.sync(home);
        desk.clear();
        desk.close(10, 5, 6);
        CHECK.due("sync", desk.x.sync(home), 1);
        CHECK.due("one is sent", desk.x.flight(), 2);
        CHECK.same("that of the new one", Realm.parts(desk.x, 1),
                Realm.datagram(home, 2, desk.key, Realm.CLOSED, 0, 10, 5, 6));
    }

    private static void evictionsHaveNoAnswer(int home) {
        CHECK.about("if they have one");
        Desk desk = new Desk(home);
        desk.ask(1, desk.user(0));
        desk.x.sync(home);
        desk.clear();
        desk.x.evict(home, 0);
        CHECK.due("an eviction alone becomes durable", desk.x.sync(home), 1);
        CHECK.due("and nothing is sent", desk.x.flight(), 1);
        desk.ask(2, desk.user(0));
        desk.x.evict(home, 0);
        desk.ask(3, desk.user(1));
        desk.x.evict(home, 0);
        CHECK.due("four become durable", desk.x.sync(home), 4);
        CHECK.due("two answers are sent", desk.x.flight(), 3);
        CHECK.due("A of the first", desk.x.field(1, 3), 2);
        CHECK.due("A of the second", desk.x.field(2, 3), 4);
    }

    private static void theOtherHomeStays(int home) {
        CHECK.about("All records of the home");
        RealmLogins x = Realm.peopled();
        Realm.askHome(x, 0, 0, 0, 1);
        Realm.askHome(x, 0, 1, 1, 2);
        CHECK.due("sync", x.sync(home), 1);
        CHECK.due("durable here", x.journal(home, 1), 1);
        CHECK.due("durable there", x.journal(7 - home, 1), 0);
        CHECK.due("one is sent", x.flight(), 1);
        CHECK.due("its sender", x.field(0, 6), home);
    }

    private static void noneForNoHome() {
        CHECK.about("NONE when the station is no home");
        Refusals refusals = new Refusals(CHECK);
        for (int station : Edges.outside(3, 4)) {
            refusals.none("sync(" + station + ")", x -> x.sync(station));
        }
        refusals.none("sync(0)", x -> x.sync(0));
        refusals.none("sync(1)", x -> x.sync(1));
    }
}
