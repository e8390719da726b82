/**
 * Access points that let users in, a relay, and two home servers that know the users, over a
 * network that may lose, repeat, delay and alter what is sent.
 *
 * <p>All rows (datagrams, lines, entries, records) are made once, with the object, and used again:
 * no call makes an object of its own.
 */
public final class RealmLogins {
    public static final int NONE = -1;

    private static final int POINTS = 2;
    private static final int RELAY = 2;
    private static final int FIRST_HOME = 3;
    private static final int HOMES = 2;
    private static final int LINKS = 4;

    private static final int USERS = 12;
    private static final int MOST_SESSIONS = 6;
    private static final int MOST_TICKS = 10;

    private static final int ASK = 0;
    private static final int ACCEPT = 1;
    private static final int REJECT = 2;
    private static final int CLOSE = 3;
    private static final int CLOSED = 4;

    private static final int DROPPED = 0;
    private static final int TAKEN = 1;
    private static final int AGAIN = 2;
    private static final int NOT_DURABLE = 3;

    private final Network network;
    private final Point[] points;
    private final Relay relay;
    private final Home[] homes;

    public RealmLogins() {
        network = new Network();
        points = new Point[POINTS];
        for (int i = 0; i < POINTS; i++) {
            points[i] = new Point(i);
        }
        relay = new Relay();
        homes = new Home[HOMES];
        for (int i = 0; i < HOMES; i++) {
            homes[i] = new Home(FIRST_HOME + i);
        }
    }

    public boolean key(int link, int near, int far) {
        if (link < 0 || link >= LINKS) {
            return false;
        }
        network.nearKeys[link] = near;
        network.farKeys[link] = far;
        return true;
    }

    public boolean enrol(int user, int password, int limit) {
        if (!isUser(user) || limit < 0 || limit > MOST_SESSIONS) {
            return false;
        }
        Home home = homeAt(homeOf(user));
        if (home == null) {
            return false;
        }
        home.passwords[user] = password;
        home.limits[user] = limit;
        return true;
    }

    public int login(int point, int line, int user, int password, int draw) {
        Point at = pointAt(point);
        Line chosen = lineAt(point, line);
        if (at == null || chosen == null || !isUser(user) || chosen.state != Line.IDLE) {
            return NONE;
        }
        chosen.user = user;
        chosen.password = password;
        chosen.verdict = Line.NO_VERDICT;
        return at.makePending(chosen, Line.ASKING, draw, network);
    }

    public int logout(int point, int line, int draw) {
        Point at = pointAt(point);
        Line chosen = lineAt(point, line);
        if (at == null || chosen == null || chosen.state != Line.UP) {
            return NONE;
        }
        return at.makePending(chosen, Line.CLOSING, draw, network);
    }

    public int deliver(int k) {
        if (!network.isPlace(k)) {
            return NONE;
        }
        Datagram datagram = network.takeOut(k);
        int receiver = datagram.parts[Datagram.RECEIVER];
        Point point = pointAt(receiver);
        if (point != null) {
            return point.hear(datagram, network);
        }
        Home home = homeAt(receiver);
        if (home != null) {
            return home.hear(datagram, network);
        }
        return relay.hear(datagram, network);
    }

    public boolean lose(int k) {
        if (!network.isPlace(k)) {
            return false;
        }
        network.takeOut(k);
        return true;
    }

    public boolean copy(int k) {
        if (!network.isPlace(k) || network.isFull()) {
            return false;
        }
        network.putCopyAtEnd(k);
        return true;
    }

    public boolean forge(int k, int f, int v) {
        if (!network.isPlace(k) || f < 0 || f >= Datagram.FIELDS) {
            return false;
        }
        network.inFlight[k].parts[f] += v;
        return true;
    }

    public int tick(int n) {
        if (n < 1 || n > MOST_TICKS) {
            return NONE;
        }
        int sent = 0;
        for (int i = 0; i < n; i++) {
            network.clock++;
            for (int p = 0; p < POINTS; p++) {
                sent += points[p].sendAgainOrGiveUp(network);
            }
        }
        return sent;
    }

    public int sync(int station) {
        Home home = homeAt(station);
        return home == null ? NONE : home.makeAllDurable(network);
    }

    public boolean crash(int station) {
        Point point = pointAt(station);
        Home home = homeAt(station);
        if (point != null) {
            point.forgetAll();
        } else if (home != null) {
            home.forgetWhatIsNotDurable();
        } else if (station == RELAY) {
            relay.forgetEntries();
        } else {
            return false;
        }
        return true;
    }

    public boolean evict(int station, int address) {
        Home home = homeAt(station);
        return home != null && home.makeEviction(address);
    }

    public int flight() {
        return network.count;
    }

    public int field(int k, int f) {
        if (!network.isPlace(k) || f < 0 || f >= Datagram.PARTS) {
            return NONE;
        }
        return network.inFlight[k].parts[f];
    }

    public int line(int point, int line, int which) {
        Line chosen = lineAt(point, line);
        return chosen == null ? NONE : chosen.tell(which);
    }

    public int holder(int station, int address) {
        Home home = homeAt(station);
        return home == null ? NONE : home.sessions.userAt(address);
    }

    public int journal(int station, int which) {
        Home home = homeAt(station);
        return home == null ? NONE : home.tell(which);
    }

    private Point pointAt(int station) {
        return station >= 0 && station < POINTS ? points[station] : null;
    }

    private Home homeAt(int station) {
        boolean isHome = station >= FIRST_HOME && station < FIRST_HOME + HOMES;
        return isHome ? homes[station - FIRST_HOME] : null;
    }

    private Line lineAt(int point, int line) {
        Point at = pointAt(point);
        return at == null || line < 0 || line >= Point.LINES ? null : at.lines[line];
    }

    private static boolean isUser(int user) {
        return user >= 0 && user < USERS;
    }

    private static int homeOf(int user) {
        return FIRST_HOME + (user & 1);
    }

    private static boolean isRequest(int kind) {
        return kind == ASK || kind == CLOSE;
    }

    private static boolean isAnswer(int kind) {
        return kind == ACCEPT || kind == REJECT || kind == CLOSED;
    }

    private static int mix(int a, int b) {
        int s = 31 * a + b + 5;
        int t = s ^ (s >>> 13);
        return t * 40503;
    }

    /** The six fields of a datagram, then its sender and its receiver, in the order of promise 15. */
    private static final class Datagram {
        static final int KIND = 0;
        static final int ID = 1;
        static final int AUTH = 2;
        static final int A = 3;
        static final int B = 4;
        static final int SEAL = 5;
        static final int SENDER = 6;
        static final int RECEIVER = 7;
        static final int FIELDS = 6;
        static final int PARTS = 8;

        final int[] parts = new int[PARTS];

        int sealFor(int key, int auth) {
            int seal = mix(key, parts[KIND]);
            seal = mix(seal, parts[ID]);
            seal = mix(seal, auth);
            seal = mix(seal, parts[A]);
            return mix(seal, parts[B]);
        }
    }

    /** What all stations share: the clock, the keys of the links, and the flight. */
    private static final class Network {
        static final int MOST_IN_FLIGHT = 24;

        final int[] nearKeys = new int[LINKS];
        final int[] farKeys = new int[LINKS];
        final Datagram[] inFlight = new Datagram[MOST_IN_FLIGHT];
        int count;
        int clock;
        /** Kept out of inFlight, so that what its receiver sends can't overwrite it while it is read. */
        Datagram takenOut = new Datagram();

        Network() {
            for (int i = 0; i < MOST_IN_FLIGHT; i++) {
                inFlight[i] = new Datagram();
            }
        }

        /** The key at the station's own end of its link with the other station. */
        int keyAt(int station, int other) {
            int lower = Math.min(station, other);
            int link = lower == RELAY ? Math.max(station, other) - 1 : lower;
            if (link < 0 || link >= LINKS) {
                return 0;
            }
            return station == lower ? nearKeys[link] : farKeys[link];
        }

        boolean isRight(Datagram datagram, int auth) {
            int[] parts = datagram.parts;
            int key = keyAt(parts[Datagram.RECEIVER], parts[Datagram.SENDER]);
            return parts[Datagram.SEAL] == datagram.sealFor(key, auth);
        }

        /** Of an answer, auth is that of the request that it is sealed for: it isn't sent itself. */
        void send(int sender, int receiver, int kind, int id, int auth, int a, int b) {
            if (isFull()) {
                return;
            }
            Datagram datagram = inFlight[count];
            count++;
            int[] parts = datagram.parts;
            parts[Datagram.KIND] = kind;
            parts[Datagram.ID] = id;
            parts[Datagram.AUTH] = isRequest(kind) ? auth : 0;
            parts[Datagram.A] = a;
            parts[Datagram.B] = b;
            parts[Datagram.SEAL] = datagram.sealFor(keyAt(sender, receiver), auth);
            parts[Datagram.SENDER] = sender;
            parts[Datagram.RECEIVER] = receiver;
        }

        boolean isFull() {
            return count >= MOST_IN_FLIGHT;
        }

        boolean isPlace(int k) {
            return k >= 0 && k < count;
        }

        /** For a place of the flight alone. What it answers is good until the next call of it. */
        Datagram takeOut(int k) {
            Datagram spare = takenOut;
            takenOut = inFlight[k];
            count--;
            for (int i = k; i < count; i++) {
                inFlight[i] = inFlight[i + 1];
            }
            inFlight[count] = spare;
            return takenOut;
        }

        /** For a place of a flight that isn't full. */
        void putCopyAtEnd(int k) {
            System.arraycopy(inFlight[k].parts, 0, inFlight[count].parts, 0, Datagram.PARTS);
            count++;
        }
    }

    private static final class Line {
        static final int IDLE = 0;
        static final int ASKING = 1;
        static final int UP = 2;
        static final int CLOSING = 3;

        static final int NO_VERDICT = 0;
        static final int LET_IN = 1;
        static final int TURNED_AWAY = 2;
        static final int NO_ANSWER = 3;

        int state;
        int verdict;
        int id;
        int auth;
        int user;
        int password;
        int session;
        int address;
        int sendings;
        int latestSending;

        boolean isPending() {
            return state == ASKING || state == CLOSING;
        }

        boolean waitsFor(int kind) {
            if (state == ASKING) {
                return kind == ACCEPT || kind == REJECT;
            }
            return state == CLOSING && kind == CLOSED;
        }

        /** For an answer of a kind that the line waits for. */
        void settle(int kind, int a, int b) {
            if (kind == ACCEPT) {
                state = UP;
                verdict = LET_IN;
                session = a;
                address = b;
                return;
            }
            state = IDLE;
            if (kind == REJECT) {
                verdict = TURNED_AWAY;
            }
        }

        void giveUp() {
            if (state == ASKING) {
                verdict = NO_ANSWER;
            }
            state = IDLE;
        }

        int tell(int which) {
            boolean hasSession = state == UP || state == CLOSING;
            switch (which) {
                case 0:
                    return state;
                case 1:
                    return verdict;
                case 2:
                    return isPending() ? id : NONE;
                case 3:
                    return hasSession ? session : NONE;
                case 4:
                    return hasSession ? address : NONE;
                default:
                    return NONE;
            }
        }
    }

    private static final class Point {
        static final int LINES = 4;
        static final int IDS = 8;
        static final int MOST_SENDINGS = 3;
        static final int TICKS_BETWEEN_SENDINGS = 5;

        final int station;
        final Line[] lines = new Line[LINES];
        int latestId = NONE;

        Point(int station) {
            this.station = station;
            for (int i = 0; i < LINES; i++) {
                lines[i] = new Line();
            }
        }

        int makePending(Line line, int state, int auth, Network network) {
            // The ID is looked for first: the line's old one must not count as taken.
            line.id = newId();
            line.state = state;
            line.auth = auth;
            line.sendings = 0;
            sendFor(line, network);
            return line.id;
        }

        int newId() {
            int id = idBehind(latestId);
            for (int i = 0; i < IDS && pendingLineWith(id) != null; i++) {
                id = idBehind(id);
            }
            latestId = id;
            return id;
        }

        /** The one behind NONE is 0. */
        static int idBehind(int id) {
            return (id + 1) % IDS;
        }

        Line pendingLineWith(int id) {
            for (int i = 0; i < LINES; i++) {
                if (lines[i].isPending() && lines[i].id == id) {
                    return lines[i];
                }
            }
            return null;
        }

        void sendFor(Line line, Network network) {
            line.sendings++;
            line.latestSending = network.clock;
            if (line.state == Line.ASKING) {
                int hidden = line.password ^ mix(network.keyAt(station, RELAY), line.auth);
                network.send(station, RELAY, ASK, line.id, line.auth, line.user, hidden);
            } else {
                network.send(station, RELAY, CLOSE, line.id, line.auth, line.user, line.session);
            }
        }

        int hear(Datagram datagram, Network network) {
            int[] parts = datagram.parts;
            int kind = parts[Datagram.KIND];
            Line line = pendingLineWith(parts[Datagram.ID]);
            if (line == null || !line.waitsFor(kind) || !network.isRight(datagram, line.auth)) {
                return DROPPED;
            }
            line.settle(kind, parts[Datagram.A], parts[Datagram.B]);
            return TAKEN;
        }

        /** Answers how many lines sent. */
        int sendAgainOrGiveUp(Network network) {
            int sent = 0;
            for (int i = 0; i < LINES; i++) {
                Line line = lines[i];
                int waited = network.clock - line.latestSending;
                if (!line.isPending() || waited < TICKS_BETWEEN_SENDINGS) {
                    continue;
                }
                if (line.sendings < MOST_SENDINGS) {
                    sendFor(line, network);
                    sent++;
                } else {
                    line.giveUp();
                }
            }
            return sent;
        }

        void forgetAll() {
            for (int i = 0; i < LINES; i++) {
                lines[i].state = Line.IDLE;
                lines[i].verdict = Line.NO_VERDICT;
            }
            latestId = NONE;
        }
    }

    /** What the relay keeps of a request: who asked, and under which auth it went on to which home. */
    private static final class Entry {
        boolean isThere;
        int point;
        int kind;
        int id;
        int auth;
        int home;
        int ownAuth;
    }

    private static final class Relay {
        static final int ENTRIES = 8;

        final Entry[] entries = new Entry[ENTRIES];
        int latestPlace = NONE;
        int made;

        Relay() {
            for (int i = 0; i < ENTRIES; i++) {
                entries[i] = new Entry();
            }
        }

        int hear(Datagram datagram, Network network) {
            boolean isFromPoint = datagram.parts[Datagram.SENDER] < RELAY;
            return isFromPoint ? hearRequest(datagram, network) : hearAnswer(datagram, network);
        }

        int hearRequest(Datagram datagram, Network network) {
            int[] parts = datagram.parts;
            if (!isRequest(parts[Datagram.KIND])
                    || !network.isRight(datagram, parts[Datagram.AUTH])) {
                return DROPPED;
            }
            int place = placeOfEntryFor(parts);
            boolean again = place != NONE;
            if (!again) {
                place = makeEntry(parts);
            }
            handOnRequest(parts, place, network);
            return again ? AGAIN : TAKEN;
        }

        int placeOfEntryFor(int[] parts) {
            for (int i = 0; i < ENTRIES; i++) {
                Entry entry = entries[i];
                if (entry.isThere
                        && entry.point == parts[Datagram.SENDER]
                        && entry.kind == parts[Datagram.KIND]
                        && entry.id == parts[Datagram.ID]
                        && entry.auth == parts[Datagram.AUTH]) {
                    return i;
                }
            }
            return NONE;
        }

        /** Answers the place of the new entry. */
        int makeEntry(int[] parts) {
            latestPlace = (latestPlace + 1) % ENTRIES;
            Entry entry = entries[latestPlace];
            entry.isThere = true;
            entry.point = parts[Datagram.SENDER];
            entry.kind = parts[Datagram.KIND];
            entry.id = parts[Datagram.ID];
            entry.auth = parts[Datagram.AUTH];
            entry.home = homeOf(parts[Datagram.A]);
            entry.ownAuth = mix(entry.auth, made);
            made++;
            return latestPlace;
        }

        void handOnRequest(int[] parts, int place, Network network) {
            Entry entry = entries[place];
            int b = parts[Datagram.B];
            if (entry.kind == ASK) {
                // The password is hidden anew, for the next link.
                b ^= mix(network.keyAt(RELAY, entry.point), entry.auth)
                        ^ mix(network.keyAt(RELAY, entry.home), entry.ownAuth);
            }
            network.send(RELAY, entry.home, entry.kind, place, entry.ownAuth, parts[Datagram.A], b);
        }

        int hearAnswer(Datagram datagram, Network network) {
            int[] parts = datagram.parts;
            int kind = parts[Datagram.KIND];
            int place = parts[Datagram.ID];
            if (!isAnswer(kind) || place < 0 || place >= ENTRIES) {
                return DROPPED;
            }
            Entry entry = entries[place];
            if (!entry.isThere
                    || entry.home != parts[Datagram.SENDER]
                    || !network.isRight(datagram, entry.ownAuth)) {
                return DROPPED;
            }
            int a = parts[Datagram.A];
            int b = parts[Datagram.B];
            network.send(RELAY, entry.point, kind, entry.id, entry.auth, a, b);
            return TAKEN;
        }

        /** The number of entries made goes on, so that no own auth comes a second time. */
        void forgetEntries() {
            for (int i = 0; i < ENTRIES; i++) {
                entries[i].isThere = false;
            }
            latestPlace = NONE;
        }
    }

    /** The open sessions of a home by their addresses, and how many were counted. */
    private static final class Sessions {
        static final int ADDRESSES = 6;

        final boolean[] isOpen = new boolean[ADDRESSES];
        final int[] numbers = new int[ADDRESSES];
        final int[] users = new int[ADDRESSES];
        int counted;

        void forgetAll() {
            for (int i = 0; i < ADDRESSES; i++) {
                isOpen[i] = false;
            }
            counted = 0;
        }

        boolean isOpenAt(int address) {
            return address >= 0 && address < ADDRESSES && isOpen[address];
        }

        int userAt(int address) {
            return isOpenAt(address) ? users[address] : NONE;
        }

        int countOf(int user) {
            int count = 0;
            for (int i = 0; i < ADDRESSES; i++) {
                if (isOpen[i] && users[i] == user) {
                    count++;
                }
            }
            return count;
        }

        /** NONE when every address is one of an open session. */
        int leastFreeAddress() {
            for (int i = 0; i < ADDRESSES; i++) {
                if (!isOpen[i]) {
                    return i;
                }
            }
            return NONE;
        }

        void open(int address, int number, int user) {
            if (address >= 0 && address < ADDRESSES) {
                isOpen[address] = true;
                numbers[address] = number;
                users[address] = user;
            }
        }

        void endAt(int address) {
            if (isOpenAt(address)) {
                isOpen[address] = false;
            }
        }

        void endAndCount(int number, int user) {
            for (int i = 0; i < ADDRESSES; i++) {
                if (isOpen[i] && numbers[i] == number && users[i] == user) {
                    isOpen[i] = false;
                    counted++;
                }
            }
        }
    }

    /** A record of a journal: the request that made it, and its answer. */
    private static final class JournalRecord {
        /** No kind of a datagram, so that no request is known by such a record. */
        static final int EVICTION = 5;

        int kind;
        int id;
        int auth;
        int user;
        int clock;
        int answer;
        int a;
        int b;

        void takeRequest(int[] parts, int now) {
            kind = parts[Datagram.KIND];
            id = parts[Datagram.ID];
            auth = parts[Datagram.AUTH];
            user = parts[Datagram.A];
            clock = now;
        }

        void setAnswer(int answer, int a, int b) {
            this.answer = answer;
            this.a = a;
            this.b = b;
        }
    }

    private static final class Home {
        static final int MOST_RECORDS = 40;
        static final int TICKS_KNOWN = 20;

        static final int NOT_ADMITTED = 1;
        static final int LIMIT_REACHED = 2;
        static final int NO_ADDRESS = 3;

        final int station;
        final int[] passwords = new int[USERS];
        /** NONE for a user who isn't enrolled here. */
        final int[] limits = new int[USERS];
        final Sessions sessions = new Sessions();
        final JournalRecord[] records = new JournalRecord[MOST_RECORDS];
        int count;
        int durable;

        Home(int station) {
            this.station = station;
            for (int i = 0; i < USERS; i++) {
                limits[i] = NONE;
            }
            for (int i = 0; i < MOST_RECORDS; i++) {
                records[i] = new JournalRecord();
            }
        }

        int hear(Datagram datagram, Network network) {
            int[] parts = datagram.parts;
            if (!isRequest(parts[Datagram.KIND])
                    || !network.isRight(datagram, parts[Datagram.AUTH])) {
                return DROPPED;
            }
            int known = latestRecordOf(parts, network.clock);
            if (known != NONE) {
                return hearAgain(known, network);
            }
            if (count >= MOST_RECORDS) {
                return DROPPED;
            }
            JournalRecord record = records[count];
            record.takeRequest(parts, network.clock);
            if (record.kind == ASK) {
                answerAsk(record, parts[Datagram.B], network);
            } else {
                record.setAnswer(CLOSED, parts[Datagram.A], parts[Datagram.B]);
            }
            addRecord();
            return TAKEN;
        }

        /** The latest record by which the request is known; NONE when it isn't. */
        int latestRecordOf(int[] parts, int now) {
            for (int i = count - 1; i >= 0; i--) {
                JournalRecord record = records[i];
                if (record.kind == parts[Datagram.KIND]
                        && record.id == parts[Datagram.ID]
                        && record.auth == parts[Datagram.AUTH]
                        && now - record.clock <= TICKS_KNOWN) {
                    return i;
                }
            }
            return NONE;
        }

        int hearAgain(int number, Network network) {
            if (number >= durable) {
                return NOT_DURABLE;
            }
            sendAnswerOf(records[number], network);
            return AGAIN;
        }

        void answerAsk(JournalRecord record, int hidden, Network network) {
            int password = hidden ^ mix(network.keyAt(station, RELAY), record.auth);
            int address = sessions.leastFreeAddress();
            if (!admits(record.user, password)) {
                record.setAnswer(REJECT, NOT_ADMITTED, 0);
            } else if (sessions.countOf(record.user) >= limits[record.user]) {
                record.setAnswer(REJECT, LIMIT_REACHED, 0);
            } else if (address == NONE) {
                record.setAnswer(REJECT, NO_ADDRESS, 0);
            } else {
                record.setAnswer(ACCEPT, count, address);
            }
        }

        /** A user of the other home is never enrolled here. */
        boolean admits(int user, int password) {
            return isUser(user) && limits[user] != NONE && passwords[user] == password;
        }

        /** Adds the record that was written in the first free row. */
        void addRecord() {
            carryOut(records[count]);
            count++;
        }

        /** What a record does to the sessions, when it is made and when the home comes back from a crash. */
        void carryOut(JournalRecord record) {
            if (record.kind == JournalRecord.EVICTION) {
                sessions.endAt(record.b);
            } else if (record.answer == ACCEPT) {
                sessions.open(record.b, record.a, record.user);
            } else if (record.answer == CLOSED) {
                sessions.endAndCount(record.b, record.a);
            }
        }

        void sendAnswerOf(JournalRecord record, Network network) {
            network.send(
                    station, RELAY, record.answer, record.id, record.auth, record.a, record.b);
        }

        boolean makeEviction(int address) {
            if (!sessions.isOpenAt(address) || count >= MOST_RECORDS) {
                return false;
            }
            JournalRecord record = records[count];
            record.kind = JournalRecord.EVICTION;
            record.setAnswer(NONE, 0, address);
            addRecord();
            return true;
        }

        /** Answers how many records became durable. */
        int makeAllDurable(Network network) {
            int became = count - durable;
            for (int i = durable; i < count; i++) {
                if (records[i].answer != NONE) {
                    sendAnswerOf(records[i], network);
                }
            }
            durable = count;
            return became;
        }

        void forgetWhatIsNotDurable() {
            count = durable;
            sessions.forgetAll();
            for (int i = 0; i < count; i++) {
                carryOut(records[i]);
            }
        }

        int tell(int which) {
            switch (which) {
                case 0:
                    return count;
                case 1:
                    return durable;
                case 2:
                    return sessions.counted;
                default:
                    return NONE;
            }
        }
    }
}
