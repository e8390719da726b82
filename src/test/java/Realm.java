/** What the tests share: the document's arithmetic, and runs of calls that many tests begin with. */
final class Realm {
    static final int ASK = 0;
    static final int ACCEPT = 1;
    static final int REJECT = 2;
    static final int CLOSE = 3;
    static final int CLOSED = 4;

    /** The keys that keyed() gives to the links, the same at both ends. */
    static final int[] KEYS = {101, -202, 303, 1 << 30};

    private Realm() {}

    static int mix(int a, int b) {
        int s = 31 * a + b + 5;
        return (s ^ (s >>> 13)) * 40503;
    }

    static int seal(int key, int kind, int id, int x, int a, int b) {
        return mix(mix(mix(mix(mix(key, kind), id), x), a), b);
    }

    /** The seal that the datagram at place k has to have for the key and x, by its other fields. */
    static int sealAt(RealmLogins x, int k, int key, int auth) {
        return seal(key, x.field(k, 0), x.field(k, 1), auth, x.field(k, 3), x.field(k, 4));
    }

    /** Makes the datagram at place k right for the key and auth, whatever was forged in it. */
    static void reseal(RealmLogins x, int k, int key, int auth) {
        x.forge(k, 5, sealAt(x, k, key, auth) - x.field(k, 5));
    }

    static RealmLogins keyed() {
        RealmLogins x = new RealmLogins();
        for (int link = 0; link < 4; link++) {
            x.key(link, KEYS[link], KEYS[link]);
        }
        return x;
    }

    /** Keys, and the users 0 .. 11 enrolled with the password 1000 + user and the limit 6. */
    static RealmLogins peopled() {
        RealmLogins x = keyed();
        for (int user = 0; user < 12; user++) {
            x.enrol(user, 1000 + user, 6);
        }
        return x;
    }

    /** With nothing in flight: a login as far as the home, whose record is not durable yet. */
    static void askHome(RealmLogins x, int point, int line, int user, int draw) {
        x.login(point, line, user, 1000 + user, draw);
        x.deliver(0);
        x.deliver(0);
    }

    /** With nothing in flight: a whole login, with the home's sync. */
    static void letIn(RealmLogins x, int point, int line, int user, int draw) {
        askHome(x, point, line, user, draw);
        settle(x, 3 + (user & 1));
    }

    /** With nothing in flight: a whole logout, with the sync of the home. */
    static void letOut(RealmLogins x, int point, int line, int home, int draw) {
        x.logout(point, line, draw);
        x.deliver(0);
        x.deliver(0);
        settle(x, home);
    }

    /** With nothing in flight and one record that is not durable: its answer goes to its line. */
    static void settle(RealmLogins x, int home) {
        x.sync(home);
        x.deliver(0);
        x.deliver(0);
    }

    /** An ASK of user 0 with AUTH 7 and ID 0 on its way from line 0 of point 0 to the relay. */
    static RealmLogins askToRelay() {
        RealmLogins x = peopled();
        x.login(0, 0, 0, 1000, 7);
        return x;
    }

    /** The same ASK on its way to home 3, of entry 0. */
    static RealmLogins askToHome() {
        RealmLogins x = askToRelay();
        x.deliver(0);
        return x;
    }

    /** The ACCEPT of home 3 on its way to the relay. */
    static RealmLogins answerToRelay() {
        RealmLogins x = askToHome();
        x.deliver(0);
        x.sync(3);
        return x;
    }

    /** The ACCEPT of the relay on its way to point 0. */
    static RealmLogins answerToPoint() {
        RealmLogins x = answerToRelay();
        x.deliver(0);
        return x;
    }

    /** A CLOSED for line 0 of point 0, which is CLOSING with ID 1 and AUTH 8. */
    static RealmLogins answerToClosing() {
        RealmLogins x = answerToPoint();
        x.copy(0);
        x.deliver(0);
        x.logout(0, 0, 8);
        x.lose(1);
        x.forge(0, 0, CLOSED - ACCEPT);
        x.forge(0, 1, 1);
        reseal(x, 0, KEYS[0], 8);
        return x;
    }

    /** Copies the datagram at place 0 until so many are in flight. */
    static void copyUpTo(RealmLogins x, int count) {
        for (int i = x.flight(); i < count; i++) {
            x.copy(0);
        }
    }

    /** All that can be seen of an object, as a text. */
    static String look(RealmLogins x) {
        StringBuilder seen = new StringBuilder();
        int count = x.flight();
        seen.append("flight ").append(count);
        for (int k = 0; k < count; k++) {
            seen.append(" [").append(parts(x, k)).append(']');
        }
        for (int point = 0; point < 2; point++) {
            for (int line = 0; line < 4; line++) {
                seen.append(" line").append(point).append(line);
                for (int which = 0; which < 5; which++) {
                    seen.append(' ').append(x.line(point, line, which));
                }
            }
        }
        for (int home = 3; home < 5; home++) {
            seen.append(" home").append(home);
            for (int address = 0; address < 6; address++) {
                seen.append(' ').append(x.holder(home, address));
            }
            for (int which = 0; which < 3; which++) {
                seen.append(" j").append(x.journal(home, which));
            }
        }
        return seen.toString();
    }

    /** KIND, ID, AUTH, A, B, SEAL, sender and receiver of the datagram at place k. */
    static String parts(RealmLogins x, int k) {
        StringBuilder seen = new StringBuilder();
        for (int f = 0; f < 8; f++) {
            seen.append(f == 0 ? "" : " ").append(x.field(k, f));
        }
        return seen.toString();
    }

    /** The same text as parts, from what a datagram is due to be. */
    static String datagram(int sender, int receiver, int key, int kind, int id, int auth, int a, int b) {
        boolean request = kind == ASK || kind == CLOSE;
        return kind + " " + id + " " + (request ? auth : 0) + " " + a + " " + b + " "
                + seal(key, kind, id, auth, a, b) + " " + sender + " " + receiver;
    }
}
