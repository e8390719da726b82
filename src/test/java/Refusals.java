import java.util.EnumMap;
import java.util.Map;
import java.util.function.Predicate;
import java.util.function.ToIntFunction;

/**
 * Looks that a call is refused and changes nothing: neither what can be seen at once, nor what a run of
 * calls behind it brings to light (keys, users, the clock, the next ID, entries, the requests of records).
 * Each look is at an object of its own, so that none of them is used for more than 512 calls.
 */
final class Refusals {
    private static final Map<State, String> SEEN = new EnumMap<>(State.class);
    private static final Map<State, String> LATER = new EnumMap<>(State.class);

    private final Check check;

    Refusals(Check check) {
        this.check = check;
    }

    /** A call that answers NONE in every state. */
    void none(String call, ToIntFunction<RealmLogins> refused) {
        for (State state : State.values()) {
            noneIn(state, call, refused);
        }
    }

    /** A call that answers false in every state. */
    void no(String call, Predicate<RealmLogins> refused) {
        for (State state : State.values()) {
            noIn(state, call, refused);
        }
    }

    void noneIn(State state, String call, ToIntFunction<RealmLogins> refused) {
        RealmLogins x = state.make();
        check.due(call + ", " + state, refused.applyAsInt(x), RealmLogins.NONE);
        RealmLogins again = state.make();
        refused.applyAsInt(again);
        unchanged(state, call, x, again);
    }

    void noIn(State state, String call, Predicate<RealmLogins> refused) {
        RealmLogins x = state.make();
        check.due(call + ", " + state, refused.test(x), false);
        RealmLogins again = state.make();
        refused.test(again);
        unchanged(state, call, x, again);
    }

    private void unchanged(State state, String call, RealmLogins x, RealmLogins again) {
        String seen = SEEN.computeIfAbsent(state, s -> Realm.look(s.make()));
        String later = LATER.computeIfAbsent(state, s -> later(s.make()));
        check.same("a look after " + call + ", " + state, Realm.look(x), seen);
        check.same("a run after " + call + ", " + state, later(again), later);
    }

    /** Some 220 calls, and what they answer. */
    private static String later(RealmLogins x) {
        StringBuilder said = new StringBuilder();
        for (int i = 0; i < 5; i++) {
            said.append(" tick ").append(x.tick(1));
        }
        deliver(x, 10, said);
        said.append(" sync ").append(x.sync(3)).append(' ').append(x.sync(4));
        deliver(x, 10, said);
        while (x.flight() > 0) {
            x.lose(0);
        }
        for (int i = 0; i < 8; i++) {
            said.append(" login ").append(x.login(i / 4, i % 4, i, 1000 + i, 70 + i));
            said.append(" logout ").append(x.logout(i / 4, i % 4, 80 + i));
        }
        said.append(" [").append(Realm.parts(x, 0)).append(']');
        int atRelay = x.flight();
        deliver(x, atRelay, said);
        said.append(" [").append(Realm.parts(x, 0)).append(']');
        deliver(x, x.flight(), said);
        said.append(" sync ").append(x.sync(3)).append(' ').append(x.sync(4));
        said.append(" [").append(Realm.parts(x, 0)).append(']');
        deliver(x, 2 * x.flight(), said);
        for (int i = 0; i < 8; i++) {
            said.append(" line ").append(x.line(i / 4, i % 4, 0)).append(' ').append(x.line(i / 4, i % 4, 1));
        }
        said.append(" journal ").append(x.journal(3, 0)).append(' ').append(x.journal(4, 0));
        return said.toString();
    }

    private static void deliver(RealmLogins x, int count, StringBuilder said) {
        for (int i = 0; i < count; i++) {
            said.append(" deliver ").append(x.deliver(0));
        }
    }
}
