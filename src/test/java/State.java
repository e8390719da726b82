/** Objects that have come far, each made by the same run of calls every time. */
enum State {
    /** Nothing was called. */
    NEW,
    /** Lines of every kind, entries, records that are durable and some that are not, datagrams on every way. */
    BUSY,
    /** 24 in flight, eight entries; home 3 has 40 records, 30 of them durable, and no free address. */
    FULL;

    RealmLogins make() {
        switch (this) {
            case BUSY:
                return busy();
            case FULL:
                return full();
            default:
                return new RealmLogins();
        }
    }

    private static RealmLogins busy() {
        RealmLogins x = Realm.peopled();
        Realm.letIn(x, 0, 0, 0, 1);
        Realm.letIn(x, 0, 2, 2, 2);
        Realm.letIn(x, 1, 0, 1, 3);
        Realm.letIn(x, 1, 3, 3, 4);
        Realm.letOut(x, 1, 3, 4, 5);
        x.login(0, 3, 4, 1, 6);
        x.deliver(0);
        x.deliver(0);
        Realm.settle(x, 3);
        x.login(1, 2, 5, 1005, 7);
        x.tick(10);
        x.tick(5);
        for (int i = 0; i < 3; i++) {
            x.lose(0);
        }
        x.logout(0, 2, 8);
        x.tick(3);
        x.login(0, 1, 6, 1006, 9);
        // The CLOSE goes on to home 3, whose record is not durable; a copy of it stays in flight.
        x.deliver(0);
        x.copy(1);
        x.deliver(1);
        // An ASK goes the whole way to home 4 and back, and a copy of each datagram stays in flight.
        x.login(1, 1, 7, 1007, 10);
        x.copy(2);
        x.deliver(2);
        x.copy(3);
        x.deliver(3);
        x.sync(4);
        x.copy(4);
        x.deliver(4);
        x.evict(4, 0);
        return x;
    }

    private static RealmLogins full() {
        RealmLogins x = Realm.keyed();
        x.enrol(0, 1000, 6);
        x.enrol(1, 1001, 6);
        for (int i = 0; i < 8; i++) {
            x.login(i / 4, i % 4, 0, 1000, 50 + i);
        }
        for (int i = 0; i < 8; i++) {
            x.deliver(0);
        }
        for (int i = 0; i < 7; i++) {
            x.deliver(0);
        }
        Closes closes = new Closes(x, 3);
        closes.make(23);
        x.sync(3);
        x.lose(23);
        closes.make(10);
        x.copy(0);
        return x;
    }

    /** Makes records by CLOSEs of no session: copies of the one request in flight at place 0, forged. */
    static final class Closes {
        private final RealmLogins x;
        private final int key;
        private final int[] request = new int[6];
        private int made;

        Closes(RealmLogins x, int home) {
            this.x = x;
            key = Realm.KEYS[home - 1];
            for (int f = 0; f < 6; f++) {
                request[f] = x.field(0, f);
            }
        }

        void make(int count) {
            int last = x.flight();
            for (int i = 0; i < count; i++) {
                int auth = request[2] + made + 1;
                made++;
                x.copy(0);
                x.forge(last, 0, Realm.CLOSE - request[0]);
                x.forge(last, 2, auth - request[2]);
                int seal = Realm.seal(key, Realm.CLOSE, request[1], auth, request[3], request[4]);
                x.forge(last, 5, seal - request[5]);
                x.deliver(last);
            }
        }
    }
}
