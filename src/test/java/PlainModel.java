import java.util.ArrayList;
import java.util.List;
import java.util.TreeMap;

/**
 * The document said once more, in the plainest form: lists that are copied and searched, and
 * sessions that are told anew from the journal at every look. For ModelTest alone.
 */
final class PlainModel {
    /** A datagram is KIND, ID, AUTH, A, B, SEAL, sender, receiver. */
    private final List<int[]> flight = new ArrayList<>();
    private final int[][] keys = new int[4][2];
    private final Integer[][] users = new Integer[12][];
    private final Line[][] lines = new Line[2][4];
    private final Integer[] lastId = new Integer[2];
    private final TreeMap<Integer, int[]> entries = new TreeMap<>();
    private final List<List<Note>> journals = List.of(new ArrayList<>(), new ArrayList<>());
    private final int[] durable = new int[2];
    private Integer lastEntry;
    private int entriesMade;
    private int clock;

    private static final class Line {
        String what = "idle";
        int verdict;
        int id;
        int auth;
        int user;
        int password;
        int session;
        int address;
        final List<Integer> sentAt = new ArrayList<>();

        boolean pending() {
            return what.equals("asking") || what.equals("closing");
        }
    }

    /** A record: of a request with its answer, or of an eviction of a session's number. */
    private static final class Note {
        int[] request;
        int[] answer;
        int evicted;
        int at;
    }

    PlainModel() {
        for (int i = 0; i < 8; i++) {
            lines[i / 4][i % 4] = new Line();
        }
    }

    private static boolean in(int value, int from, int to) {
        return from <= value && value <= to;
    }

    private int keyOf(int station, int other) {
        String way = station + "-" + other;
        String[] near = {"0-2", "1-2", "2-3", "2-4"};
        String[] far = {"2-0", "2-1", "3-2", "4-2"};
        for (int link = 0; link < 4; link++) {
            if (way.equals(near[link])) {
                return keys[link][0];
            }
            if (way.equals(far[link])) {
                return keys[link][1];
            }
        }
        throw new IllegalStateException(way);
    }

    private void send(int from, int to, int kind, int id, int auth, int a, int b) {
        int seal = Realm.seal(keyOf(from, to), kind, id, auth, a, b);
        boolean answer = kind == 1 || kind == 2 || kind == 4;
        if (flight.size() < 24) {
            flight.add(new int[] {kind, id, answer ? 0 : auth, a, b, seal, from, to});
        }
    }

    private boolean right(int[] d, int auth) {
        return d[5] == Realm.seal(keyOf(d[7], d[6]), d[0], d[1], auth, d[3], d[4]);
    }

    boolean key(int link, int near, int far) {
        if (!in(link, 0, 3)) {
            return false;
        }
        keys[link] = new int[] {near, far};
        return true;
    }

    boolean enrol(int user, int password, int limit) {
        if (!in(user, 0, 11) || !in(limit, 0, 6)) {
            return false;
        }
        users[user] = new Integer[] {password, limit};
        return true;
    }

    int login(int point, int line, int user, int password, int draw) {
        if (!in(point, 0, 1) || !in(line, 0, 3) || !in(user, 0, 11)) {
            return -1;
        }
        Line l = lines[point][line];
        if (!l.what.equals("idle")) {
            return -1;
        }
        l.id = newId(point);
        l.what = "asking";
        l.user = user;
        l.password = password;
        l.auth = draw;
        l.verdict = 0;
        l.sentAt.clear();
        sendLine(point, l);
        return l.id;
    }

    int logout(int point, int line, int draw) {
        if (!in(point, 0, 1) || !in(line, 0, 3) || !lines[point][line].what.equals("up")) {
            return -1;
        }
        Line l = lines[point][line];
        l.id = newId(point);
        l.what = "closing";
        l.auth = draw;
        l.sentAt.clear();
        sendLine(point, l);
        return l.id;
    }

    private int newId(int point) {
        List<Integer> taken = new ArrayList<>();
        for (Line l : lines[point]) {
            if (l.pending()) {
                taken.add(l.id);
            }
        }
        int id = lastId[point] == null || lastId[point] == 7 ? 0 : lastId[point] + 1;
        while (taken.contains(id)) {
            id = id == 7 ? 0 : id + 1;
        }
        lastId[point] = id;
        return id;
    }

    private void sendLine(int point, Line l) {
        l.sentAt.add(clock);
        if (l.what.equals("asking")) {
            send(point, 2, 0, l.id, l.auth, l.user, l.password ^ Realm.mix(keys[point][0], l.auth));
        } else {
            send(point, 2, 3, l.id, l.auth, l.user, l.session);
        }
    }

    int deliver(int k) {
        if (!in(k, 0, flight.size() - 1)) {
            return -1;
        }
        int[] d = flight.remove(k);
        if (d[7] < 2) {
            return pointHears(d);
        }
        if (d[7] > 2) {
            return homeHears(d);
        }
        return d[6] < 2 ? relayHearsPoint(d) : relayHearsHome(d);
    }

    private int pointHears(int[] d) {
        for (Line l : lines[d[7]]) {
            boolean fits = l.what.equals("asking") && (d[0] == 1 || d[0] == 2)
                    || l.what.equals("closing") && d[0] == 4;
            if (!fits || l.id != d[1] || !right(d, l.auth)) {
                continue;
            }
            if (d[0] == 1) {
                l.what = "up";
                l.verdict = 1;
                l.session = d[3];
                l.address = d[4];
            } else {
                l.what = "idle";
                l.verdict = d[0] == 2 ? 2 : l.verdict;
            }
            return 1;
        }
        return 0;
    }

    /** An entry is point, KIND, ID, AUTH, home, own auth. */
    private int relayHearsPoint(int[] d) {
        if (d[0] != 0 && d[0] != 3 || !right(d, d[2])) {
            return 0;
        }
        Integer place = null;
        for (Integer number : entries.keySet()) {
            int[] e = entries.get(number);
            if (e[0] == d[6] && e[1] == d[0] && e[2] == d[1] && e[3] == d[2]) {
                place = number;
            }
        }
        int result = 2;
        if (place == null) {
            result = 1;
            place = lastEntry == null || lastEntry == 7 ? 0 : lastEntry + 1;
            lastEntry = place;
            int home = d[3] % 2 == 0 ? 3 : 4;
            entries.put(place, new int[] {d[6], d[0], d[1], d[2], home, Realm.mix(d[2], entriesMade)});
            entriesMade++;
        }
        int[] e = entries.get(place);
        int b = d[4];
        if (d[0] == 0) {
            int open = b ^ Realm.mix(keyOf(2, d[6]), d[2]);
            b = open ^ Realm.mix(keyOf(2, e[4]), e[5]);
        }
        send(2, e[4], d[0], place, e[5], d[3], b);
        return result;
    }

    private int relayHearsHome(int[] d) {
        int[] e = entries.get(d[1]);
        if (d[0] != 1 && d[0] != 2 && d[0] != 4 || e == null || e[4] != d[6] || !right(d, e[5])) {
            return 0;
        }
        send(2, e[0], d[0], e[2], e[3], d[3], d[4]);
        return 1;
    }

    private int homeHears(int[] d) {
        int h = d[7] - 3;
        List<Note> journal = journals.get(h);
        if (d[0] != 0 && d[0] != 3 || !right(d, d[2])) {
            return 0;
        }
        int known = -1;
        for (int i = 0; i < journal.size(); i++) {
            int[] r = journal.get(i).request;
            if (r != null && r[0] == d[0] && r[1] == d[1] && r[2] == d[2]
                    && journal.get(i).at >= clock - 20) {
                known = i;
            }
        }
        if (known >= 0) {
            if (known < durable[h]) {
                sendAnswer(h, journal.get(known));
                return 2;
            }
            return 3;
        }
        if (journal.size() == 40) {
            return 0;
        }
        Note note = new Note();
        note.request = d.clone();
        note.at = clock;
        note.answer = d[0] == 3 ? new int[] {4, d[3], d[4]} : askAnswer(h, d);
        journal.add(note);
        return 1;
    }

    private int[] askAnswer(int h, int[] d) {
        int password = d[4] ^ Realm.mix(keyOf(3 + h, 2), d[2]);
        if (!in(d[3], 0, 11) || d[3] % 2 != h || users[d[3]] == null || users[d[3]][0] != password) {
            return new int[] {2, 1, 0};
        }
        TreeMap<Integer, int[]> open = open(h);
        int mine = 0;
        for (int[] session : open.values()) {
            mine += session[1] == d[3] ? 1 : 0;
        }
        if (mine >= users[d[3]][1]) {
            return new int[] {2, 2, 0};
        }
        if (open.size() == 6) {
            return new int[] {2, 3, 0};
        }
        int address = 0;
        while (open.containsKey(address)) {
            address++;
        }
        return new int[] {1, journals.get(h).size(), address};
    }

    private void sendAnswer(int h, Note note) {
        send(3 + h, 2, note.answer[0], note.request[1], note.request[2], note.answer[1], note.answer[2]);
    }

    /** The open sessions, number and user by address. */
    private TreeMap<Integer, int[]> open(int h) {
        TreeMap<Integer, int[]> open = new TreeMap<>();
        tell(h, open);
        return open;
    }

    /** Fills the open sessions from the journal; how many were counted. */
    private int tell(int h, TreeMap<Integer, int[]> open) {
        int counted = 0;
        int number = 0;
        for (Note note : journals.get(h)) {
            if (note.request == null) {
                open.values().removeIf(session -> session[0] == note.evicted);
            } else if (note.answer[0] == 1) {
                open.put(note.answer[2], new int[] {number, note.request[3]});
            } else if (note.answer[0] == 4) {
                int before = open.size();
                open.values().removeIf(
                        session -> session[0] == note.request[4] && session[1] == note.request[3]);
                counted += before - open.size();
            }
            number++;
        }
        return counted;
    }

    boolean lose(int k) {
        if (!in(k, 0, flight.size() - 1)) {
            return false;
        }
        flight.remove(k);
        return true;
    }

    boolean copy(int k) {
        if (!in(k, 0, flight.size() - 1) || flight.size() == 24) {
            return false;
        }
        flight.add(flight.get(k).clone());
        return true;
    }

    boolean forge(int k, int f, int v) {
        if (!in(k, 0, flight.size() - 1) || !in(f, 0, 5)) {
            return false;
        }
        flight.get(k)[f] += v;
        return true;
    }

    int tick(int n) {
        if (!in(n, 1, 10)) {
            return -1;
        }
        int sent = 0;
        for (int i = 0; i < n; i++) {
            clock++;
            for (int p = 0; p < 2; p++) {
                for (Line l : lines[p]) {
                    if (!l.pending() || l.sentAt.get(l.sentAt.size() - 1) != clock - 5) {
                        continue;
                    }
                    if (l.sentAt.size() < 3) {
                        sendLine(p, l);
                        sent++;
                    } else {
                        l.verdict = l.what.equals("asking") ? 3 : l.verdict;
                        l.what = "idle";
                    }
                }
            }
        }
        return sent;
    }

    int sync(int station) {
        if (!in(station, 3, 4)) {
            return -1;
        }
        int h = station - 3;
        int became = 0;
        while (durable[h] < journals.get(h).size()) {
            Note note = journals.get(h).get(durable[h]);
            durable[h]++;
            became++;
            if (note.answer != null) {
                sendAnswer(h, note);
            }
        }
        return became;
    }

    boolean crash(int station) {
        if (!in(station, 0, 4)) {
            return false;
        }
        if (station < 2) {
            for (int i = 0; i < 4; i++) {
                lines[station][i] = new Line();
            }
            lastId[station] = null;
        } else if (station == 2) {
            entries.clear();
            lastEntry = null;
        } else {
            List<Note> journal = journals.get(station - 3);
            while (journal.size() > durable[station - 3]) {
                journal.remove(journal.size() - 1);
            }
        }
        return true;
    }

    boolean evict(int station, int address) {
        if (!in(station, 3, 4) || journals.get(station - 3).size() == 40) {
            return false;
        }
        int[] session = open(station - 3).get(address);
        if (session == null) {
            return false;
        }
        Note note = new Note();
        note.evicted = session[0];
        journals.get(station - 3).add(note);
        return true;
    }

    int flight() {
        return flight.size();
    }

    int field(int k, int f) {
        return in(k, 0, flight.size() - 1) && in(f, 0, 7) ? flight.get(k)[f] : -1;
    }

    int line(int point, int line, int which) {
        if (!in(point, 0, 1) || !in(line, 0, 3)) {
            return -1;
        }
        Line l = lines[point][line];
        boolean has = l.what.equals("up") || l.what.equals("closing");
        switch (which) {
            case 0:
                return List.of("idle", "asking", "up", "closing").indexOf(l.what);
            case 1:
                return l.verdict;
            case 2:
                return l.pending() ? l.id : -1;
            case 3:
                return has ? l.session : -1;
            case 4:
                return has ? l.address : -1;
            default:
                return -1;
        }
    }

    int holder(int station, int address) {
        int[] session = in(station, 3, 4) ? open(station - 3).get(address) : null;
        return session == null ? -1 : session[1];
    }

    int journal(int station, int which) {
        if (!in(station, 3, 4) || !in(which, 0, 2)) {
            return -1;
        }
        int h = station - 3;
        int[] due = {journals.get(h).size(), durable[h], tell(h, new TreeMap<>())};
        return due[which];
    }
}
