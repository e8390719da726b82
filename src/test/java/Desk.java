/**
 * A home with a request on its way to it that stays in flight at place 0: copies of it, forged, are the
 * shortest way to any record. No line is pending, so that ticks send nothing.
 */
final class Desk {
    final RealmLogins x;
    final int home;
    final int key;
    private final int[] request = new int[6];

    Desk(int home) {
        this(home, Realm.peopled());
    }

    /** For an object with the keys of Realm.keyed(), whose flight and relay are empty. */
    Desk(int home, RealmLogins x) {
        this.x = x;
        this.home = home;
        key = Realm.KEYS[home - 1];
        x.login(0, 0, home - 3, 0, 7);
        x.deliver(0);
        x.crash(0);
        for (int f = 0; f < request.length; f++) {
            request[f] = x.field(0, f);
        }
    }

    /** The user of this home with this number, 0 .. 5. */
    int user(int number) {
        return 2 * number + home - 3;
    }

    /** Brings a request that is right to the home. */
    int bring(int kind, int id, int auth, int a, int b) {
        x.copy(0);
        int k = x.flight() - 1;
        int[] due = {kind, id, auth, a, b, Realm.seal(key, kind, id, auth, a, b)};
        for (int f = 0; f < due.length; f++) {
            if (due[f] != request[f]) {
                x.forge(k, f, due[f] - request[f]);
            }
        }
        return x.deliver(k);
    }

    int ask(int auth, int user, int password) {
        return bring(Realm.ASK, 0, auth, user, password ^ Realm.mix(key, auth));
    }

    /** An ASK with the password that peopled() gave to the user. */
    int ask(int auth, int user) {
        return ask(auth, user, 1000 + user);
    }

    int close(int auth, int user, int number) {
        return bring(Realm.CLOSE, 0, auth, user, number);
    }

    /** Makes records of CLOSEs with an AUTH from the first on, that close nothing and change little. */
    void fill(int first, int count) {
        for (int i = 0; i < count; i++) {
            bring(Realm.CLOSE, request[1], first + i, request[3], request[4]);
        }
    }

    /** Takes all but the request at place 0 out of the flight. */
    void clear() {
        for (int k = x.flight() - 1; k > 0; k--) {
            x.lose(k);
        }
    }

    /** Syncs one record; the fields KIND, A and B of its answer, which is then lost. */
    String answer() {
        int became = x.sync(home);
        int k = x.flight() - 1;
        String said = became + ": " + x.field(k, 0) + " " + x.field(k, 3) + " " + x.field(k, 4);
        x.lose(k);
        return said;
    }

    /** What answer() is due to tell of one record. */
    static String said(int kind, int a, int b) {
        return "1: " + kind + " " + a + " " + b;
    }

    /** The users by address, then the numbers that journal() answers. */
    String held() {
        StringBuilder seen = new StringBuilder();
        for (int address = 0; address < 6; address++) {
            seen.append(x.holder(home, address)).append(' ');
        }
        for (int which = 0; which < 3; which++) {
            seen.append(which == 0 ? "| " : " ").append(x.journal(home, which));
        }
        return seen.toString();
    }
}
