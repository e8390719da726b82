import java.util.Random;
import java.util.TreeMap;

/**
 * All promises: runs of 512 calls, drawn by a Random with a fixed seed, on an object and on a PlainModel.
 * Every answer has to be the same. What only looks is called between, so that it counts among the 512.
 */
public final class ModelTest {
    private static final int RUNS = 3000;
    private static final int CALLS = 512;
    private static final int[] ODD = {-1, -2, 5, 6, 7, 8, 11, 12, 24, 40, Integer.MIN_VALUE, Integer.MAX_VALUE};

    private final Random random;
    private final RealmLogins x = new RealmLogins();
    private final PlainModel model = new PlainModel();
    private final int[][] keys = new int[4][2];
    private final TreeMap<String, Integer> reached;
    /** Shares of runs: seldom a tick, often a login and so on, so that runs go to different corners. */
    private final int[] weights = new int[17];
    private final StringBuilder said = new StringBuilder();
    private int calls;
    private boolean wrong;

    private ModelTest(int seed, TreeMap<String, Integer> reached) {
        random = new Random(seed);
        this.reached = reached;
        int[] usual = {1, 1, 6, 3, 30, 2, 3, 2, 2, 4, 1, 1, 4, 3, 1, 1, 1};
        for (int i = 0; i < weights.length; i++) {
            weights[i] = usual[i] * (1 + random.nextInt(6));
        }
        if (random.nextInt(3) == 0) {
            weights[10] = 0;
            weights[11] = 0;
        }
        if (random.nextInt(3) == 0) {
            weights[9] = 1;
        }
    }

    public static void main(String[] args) {
        TreeMap<String, Integer> reached = new TreeMap<>();
        int failed = 0;
        for (int seed = 0; seed < RUNS && failed < 3; seed++) {
            ModelTest run = new ModelTest(seed, reached);
            run.go();
            if (run.wrong) {
                failed++;
                System.out.println("ModelTest: run " + seed + "\n" + run.said);
            }
        }
        boolean thin = false;
        String[] corners = {
            "deliver point 0", "deliver point 1", "deliver relay 0", "deliver relay 1", "deliver relay 2",
            "deliver home 0", "deliver home 1", "deliver home 2", "deliver home 3", "flight full",
            "journal full", "addresses full", "answer 1", "answer 2 of 1", "answer 2 of 2", "answer 2 of 3",
            "answer 4", "evict 1", "counted", "verdict 3", "crash with records that go"};
        for (String corner : corners) {
            if (reached.getOrDefault(corner, 0) < 20) {
                thin = true;
                System.out.println("ModelTest: seldom reached: " + corner + " " + reached.get(corner));
            }
        }
        if (args.length > 0) {
            System.out.println(reached);
        }
        if (failed > 0 || thin) {
            System.exit(1);
        }
    }

    private void go() {
        begin();
        int total = 0;
        for (int weight : weights) {
            total += weight;
        }
        while (calls < CALLS && !wrong) {
            int draw = random.nextInt(total);
            int call = 0;
            while (draw >= weights[call]) {
                draw -= weights[call];
                call++;
            }
            step(call);
        }
    }

    private void begin() {
        for (int link = 0; link < 4; link++) {
            if (random.nextInt(4) > 0) {
                int key = random.nextInt();
                key(link, key, key);
            }
        }
        for (int user = 0; user < 12; user++) {
            if (random.nextInt(6) > 0) {
                enrol(user, user / 4, random.nextInt(7));
            }
        }
    }

    /** Mostly one of 0 .. bound - 1, sometimes a wrong one. */
    private int pick(int bound) {
        return random.nextInt(25) == 0 || bound < 1 ? odd() : random.nextInt(bound);
    }

    private int odd() {
        return ODD[random.nextInt(ODD.length)];
    }

    private int draw() {
        return random.nextInt(3) == 0 ? random.nextInt() : random.nextInt(3);
    }

    /** Old and new datagrams come more often than those between, so that runs get on. */
    private int place() {
        int count = model.flight();
        int way = random.nextInt(8);
        if (count > 0 && way < 3) {
            return 0;
        }
        return count > 0 && way < 5 ? count - 1 : pick(count);
    }

    private void due(String call, int got, int want) {
        calls++;
        said.append("  ").append(call).append(' ').append(got).append('\n');
        // A step may go on behind the last call that the document promises something about.
        if (got != want && calls <= CALLS) {
            wrong = true;
            said.append("  due is ").append(want).append('\n');
        }
    }

    private void due(String call, boolean got, boolean want) {
        due(call, got ? 1 : 0, want ? 1 : 0);
    }

    private void reach(String corner) {
        reached.merge(corner, 1, Integer::sum);
    }

    private void key(int link, int near, int far) {
        if (link >= 0 && link < 4) {
            keys[link] = new int[] {near, far};
        }
        due("key(" + link + ", " + near + ", " + far + ")", x.key(link, near, far), model.key(link, near, far));
    }

    private void enrol(int user, int password, int limit) {
        due("enrol(" + user + ", " + password + ", " + limit + ")",
                x.enrol(user, password, limit), model.enrol(user, password, limit));
    }

    private void step(int call) {
        switch (call) {
            case 0: {
                int near = random.nextInt(4);
                key(pick(4), near, random.nextInt(3) == 0 ? random.nextInt(4) : near);
                break;
            }
            case 1: {
                int user = pick(12);
                enrol(user, random.nextInt(8) == 0 ? random.nextInt(3) : user / 4, pick(7));
                break;
            }
            case 2:
                login();
                break;
            case 3: {
                int point = pick(2);
                int line = pick(4);
                int draw = draw();
                due("logout(" + point + ", " + line + ", " + draw + ")",
                        x.logout(point, line, draw), model.logout(point, line, draw));
                break;
            }
            case 4:
                deliver(place());
                break;
            case 5: {
                int k = place();
                due("lose(" + k + ")", x.lose(k), model.lose(k));
                break;
            }
            case 6: {
                int k = place();
                due("copy(" + k + ")", x.copy(k), model.copy(k));
                break;
            }
            case 7:
                forge(place(), pick(6), random.nextInt(3) == 0 ? random.nextInt() : random.nextInt(5) - 2);
                break;
            case 8:
                forgeAndReseal();
                break;
            case 9: {
                int n = random.nextInt(4) == 0 ? 10 : pick(11);
                due("tick(" + n + ")", x.tick(n), model.tick(n));
                break;
            }
            case 10:
                crash(pick(5));
                break;
            case 11: {
                int station = random.nextInt(10) == 0 ? pick(5) : 3 + random.nextInt(2);
                int address = pick(6);
                boolean want = model.evict(station, address);
                due("evict(" + station + ", " + address + ")", x.evict(station, address), want);
                reach("evict " + (want ? 1 : 0));
                break;
            }
            case 12: {
                int station = random.nextInt(10) == 0 ? pick(5) : 3 + random.nextInt(2);
                due("sync(" + station + ")", x.sync(station), model.sync(station));
                break;
            }
            case 13:
                lookAtOne();
                break;
            case 14:
                copyOften();
                break;
            case 15:
                fillJournal();
                break;
            default:
                lookAtLines();
                break;
        }
        count();
    }

    private void login() {
        int point = pick(2);
        int line = pick(4);
        int user = pick(12);
        int password = random.nextInt(8) == 0 ? draw() : user / 4;
        int draw = draw();
        due("login(" + point + ", " + line + ", " + user + ", " + password + ", " + draw + ")",
                x.login(point, line, user, password, draw), model.login(point, line, user, password, draw));
    }

    private void deliver(int k) {
        int receiver = model.field(k, 7);
        boolean full = model.flight() == 24;
        int want = model.deliver(k);
        due("deliver(" + k + ")", x.deliver(k), want);
        if (want >= 0) {
            String who = receiver < 2 ? "point" : receiver == 2 ? "relay" : "home";
            reach("deliver " + who + " " + want);
        }
        if (full) {
            reach("flight full");
        }
    }

    private void forge(int k, int f, int v) {
        due("forge(" + k + ", " + f + ", " + v + ")", x.forge(k, f, v), model.forge(k, f, v));
    }

    /** A forged datagram that is right for its receiver when it is a request, or an answer for the AUTH 0. */
    private void forgeAndReseal() {
        int k = place();
        if (k < 0 || k >= model.flight()) {
            return;
        }
        int from = model.field(k, 6);
        int to = model.field(k, 7);
        int link = Math.min(from, to) < 2 ? Math.min(from, to) : Math.max(from, to) - 1;
        int key = keys[link][to < from ? 0 : 1];
        int[] fields = new int[6];
        int auth = model.field(k, 2);
        int shift = random.nextInt(4) == 0 ? odd() : random.nextInt(9) - 4;
        int f = random.nextInt(5);
        forge(k, f, shift);
        for (int i = 0; i < 6; i++) {
            fields[i] = model.field(k, i);
        }
        auth = fields[0] == 0 || fields[0] == 3 ? fields[2] : auth;
        int seal = Realm.seal(key, fields[0], fields[1], auth, fields[3], fields[4]);
        forge(k, 5, seal - fields[5]);
    }

    private void crash(int station) {
        if (station == 3 || station == 4) {
            reach(model.journal(station, 0) > model.journal(station, 1)
                    ? "crash with records that go" : "crash with none that go");
        }
        due("crash(" + station + ")", x.crash(station), model.crash(station));
    }

    private void copyOften() {
        int k = place();
        for (int i = random.nextInt(24); i > 0; i--) {
            due("copy(" + k + ")", x.copy(k), model.copy(k));
        }
    }

    /** Copies of a request on its way to a home, each with an AUTH of its own and right, come to the home. */
    private void fillJournal() {
        for (int k = 0; k < model.flight(); k++) {
            if (model.field(k, 7) < 3) {
                continue;
            }
            int key = keys[model.field(k, 7) - 1][1];
            for (int i = random.nextInt(12); i > 0 && model.flight() < 24; i--) {
                int last = model.flight();
                due("copy(" + k + ")", x.copy(k), model.copy(k));
                int old = model.field(last, 2);
                int auth = random.nextInt();
                forge(last, 2, auth - old);
                if (model.field(last, 0) == 0) {
                    int b = model.field(last, 4);
                    forge(last, 4, (b ^ Realm.mix(key, old) ^ Realm.mix(key, auth)) - b);
                }
                int seal = Realm.seal(key, model.field(last, 0), model.field(last, 1), auth,
                        model.field(last, 3), model.field(last, 4));
                forge(last, 5, seal - model.field(last, 5));
                deliver(last);
            }
            return;
        }
    }

    private void lookAtOne() {
        switch (random.nextInt(5)) {
            case 0:
                due("flight()", x.flight(), model.flight());
                break;
            case 1: {
                int k = place();
                for (int f = 0; f < 8; f++) {
                    due("field(" + k + ", " + f + ")", x.field(k, f), model.field(k, f));
                }
                int f = odd();
                due("field(" + k + ", " + f + ")", x.field(k, f), model.field(k, f));
                break;
            }
            case 2: {
                int point = pick(2);
                int line = pick(4);
                int which = pick(5);
                due("line(" + point + ", " + line + ", " + which + ")",
                        x.line(point, line, which), model.line(point, line, which));
                break;
            }
            case 3: {
                int station = random.nextInt(10) == 0 ? pick(5) : 3 + random.nextInt(2);
                int address = pick(6);
                due("holder(" + station + ", " + address + ")",
                        x.holder(station, address), model.holder(station, address));
                break;
            }
            default: {
                int station = random.nextInt(10) == 0 ? pick(5) : 3 + random.nextInt(2);
                int which = pick(3);
                due("journal(" + station + ", " + which + ")",
                        x.journal(station, which), model.journal(station, which));
                break;
            }
        }
    }

    private void lookAtLines() {
        int point = random.nextInt(2);
        for (int i = 0; i < 20; i++) {
            due("line(" + point + ", " + i / 5 + ", " + i % 5 + ")",
                    x.line(point, i / 5, i % 5), model.line(point, i / 5, i % 5));
        }
    }

    /** Notes which corners the run is in, by the model alone. */
    private void count() {
        for (int home = 3; home < 5; home++) {
            int held = 0;
            for (int address = 0; address < 6; address++) {
                held += model.holder(home, address) >= 0 ? 1 : 0;
            }
            if (held == 6) {
                reach("addresses full");
            }
            if (model.journal(home, 0) == 40) {
                reach("journal full");
            }
            if (model.journal(home, 2) > 0) {
                reach("counted");
            }
        }
        int last = model.flight() - 1;
        if (last >= 0 && model.field(last, 6) > 2) {
            int kind = model.field(last, 0);
            reach("answer " + kind + (kind == 2 ? " of " + model.field(last, 3) : ""));
        }
        for (int i = 0; i < 8; i++) {
            if (model.line(i / 4, i % 4, 1) == 3) {
                reach("verdict 3");
            }
        }
    }
}
