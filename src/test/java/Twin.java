import java.util.ArrayList;
import java.util.List;
import java.util.function.Consumer;
import java.util.function.ToLongFunction;

/**
 * A refused call, looked at from behind: an array that has met it and one that has not must give
 * the same answers to all that comes later, also where a change would hide at first (the oldest
 * saved state, the signs in the buffer, the values of units that are not there).
 */
final class Twin {
    static final Class<IndexOutOfBoundsException> INDEX = IndexOutOfBoundsException.class;
    static final Class<IllegalArgumentException> ARGUMENT = IllegalArgumentException.class;
    static final Class<IllegalStateException> STATE = IllegalStateException.class;

    private Twin() {
    }

    /** The kind of exception must be the one that is due, and nothing may change. */
    static void refuses(String what, Class<? extends RuntimeException> kind, Consumer<SpreadParity> before,
            ToLongFunction<SpreadParity> call) {
        SpreadParity met = made(before);
        Check.same(what, Check.outcome(() -> call.applyAsLong(met)), "throws." + kind.getSimpleName());
        changesNothing(what, before, call);
    }

    static void changesNothing(String what, Consumer<SpreadParity> before, ToLongFunction<SpreadParity> call) {
        List<ToLongFunction<SpreadParity>> undoing = undoing();
        List<ToLongFunction<SpreadParity>> running = running();
        List<ToLongFunction<SpreadParity>> mending = mending();
        for (List<ToLongFunction<SpreadParity>> later : List.of(undoing, running, mending)) {
            SpreadParity met = made(before);
            SpreadParity other = made(before);
            Check.outcome(() -> call.applyAsLong(met));
            Check.same(what + ", then all answers", answers(met, later), answers(other, later));
        }
    }

    private static SpreadParity made(Consumer<SpreadParity> before) {
        SpreadParity x = new SpreadParity();
        before.accept(x);
        return x;
    }

    private static List<ToLongFunction<SpreadParity>> undoing() {
        List<ToLongFunction<SpreadParity>> calls = new ArrayList<>();
        for (int i = 0; i < 8; i++) {
            calls.add(SpreadParity::undo);
        }
        return calls;
    }

    private static List<ToLongFunction<SpreadParity>> running() {
        return List.of(SpreadParity::run, x -> x.append('c'), SpreadParity::run, SpreadParity::clearText,
                SpreadParity::undo);
    }

    // All other discs fail before the mending, so that the units keep what a failed disc holds.
    private static List<ToLongFunction<SpreadParity>> mending() {
        List<ToLongFunction<SpreadParity>> calls = new ArrayList<>();
        for (int disc = 0; disc < 7; disc++) {
            int one = disc;
            calls.add(x -> x.fail(one));
        }
        for (int disc = 0; disc < 7; disc++) {
            int one = disc;
            calls.add(SpreadParity::addSpare);
            calls.add(x -> x.beginMending(one));
            calls.add(x -> x.mend(9));
        }
        return calls;
    }

    private static String answers(SpreadParity x, List<ToLongFunction<SpreadParity>> later) {
        StringBuilder all = new StringBuilder(queries(x));
        for (ToLongFunction<SpreadParity> call : later) {
            all.append(Check.outcome(() -> call.applyAsLong(x))).append(' ').append(queries(x));
        }
        return all.toString();
    }

    // The hash holds the answers of all other queries.
    private static String queries(SpreadParity x) {
        return x.digest() + "," + x.savedStates() + "," + x.firstError() + "," + x.balance() + "; ";
    }
}
