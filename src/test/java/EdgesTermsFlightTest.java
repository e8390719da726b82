/** Terms: THE FLIGHT and the CLOCK. */
public final class EdgesTermsFlightTest {
    private static final Check CHECK = new Check("EdgesTermsFlightTest");

    public static void main(String[] args) {
        whatIsSentIsPutAtTheEnd();
        the25thOfALoginIsLost();
        the25thOfALogoutIsLost();
        the25thOfATickIsLost();
        the25thOfASyncIsLost();
        whatAReceiverSendsFindsThePlaceOfWhatItHears();
        clockIsZeroAtFirst();
        CHECK.end();
    }

    private static void whatIsSentIsPutAtTheEnd() {
        CHECK.about("What is sent is put at its end");
        RealmLogins x = Realm.peopled();
        x.login(0, 0, 0, 1000, 1);
        x.login(1, 0, 1, 1001, 2);
        x.login(0, 1, 2, 1002, 3);
        auths(x, 1, 2, 3);
        x.deliver(1);
        auths(x, 1, 3, Realm.mix(2, 0));
        x.deliver(0);
        auths(x, 3, Realm.mix(2, 0), Realm.mix(1, 1));
        x.tick(5);
        auths(x, 3, Realm.mix(2, 0), Realm.mix(1, 1), 1, 3, 2);
    }

    private static void auths(RealmLogins x, int... due) {
        CHECK.due("flight", x.flight(), due.length);
        for (int k = 0; k < due.length; k++) {
            CHECK.due("AUTH at place " + k, x.field(k, 2), due[k]);
        }
    }

    /** With 22, 23 and 24 in flight: the last that finds a place, and the first that is lost. */
    private static void the25thOfALoginIsLost() {
        CHECK.about("when 24 are in flight already, it is lost", "login");
        for (int before = 22; before <= 24; before++) {
            RealmLogins x = Realm.askToRelay();
            Realm.copyUpTo(x, before);
            CHECK.due("login at " + before, x.login(1, 0, 1, 1001, 99), 0);
            CHECK.due("flight", x.flight(), Math.min(before + 1, 24));
            CHECK.due("AUTH of the last", x.field(x.flight() - 1, 2), before < 24 ? 99 : 7);
            CHECK.due("the line is ASKING all the same", x.line(1, 0, 0), 1);
            CHECK.due("the line has its ID", x.line(1, 0, 2), 0);
        }
    }

    private static void the25thOfALogoutIsLost() {
        CHECK.about("when 24 are in flight already, it is lost", "logout");
        for (int before = 22; before <= 24; before++) {
            RealmLogins x = Realm.peopled();
            Realm.letIn(x, 1, 0, 1, 1);
            x.login(0, 0, 0, 1000, 7);
            Realm.copyUpTo(x, before);
            CHECK.due("logout at " + before, x.logout(1, 0, 99), 1);
            CHECK.due("flight", x.flight(), Math.min(before + 1, 24));
            CHECK.due("AUTH of the last", x.field(x.flight() - 1, 2), before < 24 ? 99 : 7);
            CHECK.due("the line is CLOSING all the same", x.line(1, 0, 0), 3);
        }
    }

    private static void the25thOfATickIsLost() {
        CHECK.about("when 24 are in flight already, it is lost", "tick");
        for (int before = 22; before <= 24; before++) {
            RealmLogins x = Realm.askToRelay();
            x.login(1, 3, 1, 1001, 99);
            Realm.copyUpTo(x, before);
            CHECK.due("tick at " + before, x.tick(5), 2);
            CHECK.due("flight", x.flight(), 24);
            CHECK.due("AUTH of the last", x.field(23, 2), before == 22 ? 99 : 7);
            for (int i = 0; i < 24; i++) {
                x.lose(0);
            }
            CHECK.due("five ticks later they send again", x.tick(5), 2);
            CHECK.due("flight", x.flight(), 2);
            CHECK.due("that was the third time", x.tick(5), 0);
            CHECK.due("verdict", x.line(1, 3, 1), 3);
        }
    }

    private static void the25thOfASyncIsLost() {
        CHECK.about("when 24 are in flight already, it is lost", "sync");
        for (int before = 21; before <= 24; before++) {
            Desk desk = new Desk(3);
            RealmLogins x = desk.x;
            for (int auth = 1; auth <= 3; auth++) {
                desk.close(auth, auth, auth);
            }
            Realm.copyUpTo(x, before);
            CHECK.due("sync at " + before, x.sync(3), 3);
            CHECK.due("flight", x.flight(), 24);
            for (int i = 0; i < 3; i++) {
                int k = before + i;
                CHECK.due("A of answer " + i + " at place " + k, x.field(k, 3), k < 24 ? i + 1 : -1);
            }
            CHECK.due("all are durable", x.journal(3, 1), 3);
            x.lose(23);
            x.lose(22);
            CHECK.due("a lost answer is sent when its request is known", desk.close(3, 3, 3), 2);
            CHECK.due("A of it", x.field(22, 3), 3);
        }
    }

    /** What is delivered is out of the flight before its receiver sends. */
    private static void whatAReceiverSendsFindsThePlaceOfWhatItHears() {
        CHECK.about("when 24 are in flight already, it is lost", "deliver");
        RealmLogins x = Realm.askToRelay();
        Realm.copyUpTo(x, 24);
        CHECK.due("the relay hears a request", x.deliver(0), 1);
        CHECK.due("flight", x.flight(), 24);
        CHECK.due("receiver of the last", x.field(23, 7), 3);
        CHECK.due("the relay hears it again", x.deliver(0), 2);
        CHECK.due("flight", x.flight(), 24);
        CHECK.due("receiver of the last", x.field(23, 7), 3);
        CHECK.due("the home hears it", x.deliver(22), 1);
        x.sync(3);
        CHECK.due("flight", x.flight(), 24);
        CHECK.due("the home hears it again", x.deliver(22), 2);
        CHECK.due("flight", x.flight(), 24);
        CHECK.due("sender of the last", x.field(23, 6), 3);
        CHECK.due("the relay hears an answer", x.deliver(22), 1);
        CHECK.due("flight", x.flight(), 24);
        CHECK.due("receiver of the last", x.field(23, 7), 0);
        CHECK.due("the point hears it", x.deliver(23), 1);
        CHECK.due("flight", x.flight(), 23);
    }

    private static void clockIsZeroAtFirst() {
        CHECK.about("The CLOCK is 0 at first.");
        RealmLogins x = new RealmLogins();
        x.login(0, 0, 0, 0, 0);
        CHECK.due("4 ticks of a new object", x.tick(4), 0);
        CHECK.due("the fifth", x.tick(1), 1);
        Desk desk = new Desk(3);
        desk.ask(1, 0);
        desk.x.tick(10);
        desk.x.tick(10);
        CHECK.due("what a new object's home heard, 20 ticks later", desk.ask(1, 0), 3);
        desk.x.tick(1);
        CHECK.due("and 21 ticks later", desk.ask(1, 0), 1);
    }
}
