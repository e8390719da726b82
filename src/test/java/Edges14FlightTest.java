/** Promise 14: flight. */
public final class Edges14FlightTest {
    private static final Check CHECK = new Check("Edges14FlightTest");

    public static void main(String[] args) {
        from0To24AndBack();
        CHECK.end();
    }

    private static void from0To24AndBack() {
        CHECK.about("The number of datagrams in flight.");
        RealmLogins x = Realm.peopled();
        CHECK.due("none", x.flight(), 0);
        x.login(0, 0, 0, 1000, 7);
        CHECK.due("one", x.flight(), 1);
        for (int count = 2; count <= 24; count++) {
            x.copy(0);
            CHECK.due("one more", x.flight(), count);
        }
        x.copy(0);
        CHECK.due("a copy that is refused", x.flight(), 24);
        x.login(1, 0, 1, 1001, 8);
        CHECK.due("a sending that is lost", x.flight(), 24);
        x.deliver(0);
        CHECK.due("one comes, one goes on", x.flight(), 24);
        x.lose(0);
        CHECK.due("one is lost", x.flight(), 23);
        x.forge(0, 5, 1);
        x.deliver(0);
        CHECK.due("one is dropped", x.flight(), 22);
        for (int count = 21; count >= 0; count--) {
            x.lose(count / 2);
            CHECK.due("one fewer", x.flight(), count);
        }
        x.lose(0);
        x.deliver(0);
        CHECK.due("none", x.flight(), 0);
    }
}
