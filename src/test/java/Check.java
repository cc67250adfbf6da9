/** What the tests share: calls are compared with what is due, and wrong ones are printed. */
final class Check {
    private static int wrong;

    private Check() {
    }

    interface Call {
        long make();
    }

    static void same(String call, long got, long due) {
        if (got != due) {
            report(call + " answered " + got + ", due is " + due);
        }
    }

    static void same(String call, double got, double due) {
        if (Double.compare(got, due) != 0) {
            report(call + " answered " + got + ", due is " + due);
        }
    }

    static void same(String call, String got, String due) {
        if (!got.equals(due)) {
            report(call + " answered " + got + ", due is " + due);
        }
    }

    static void holds(String what, boolean truth) {
        if (!truth) {
            report(what + " does not hold");
        }
    }

    /** The answer of a call as a text: its number, or the name of what it throws. */
    static String outcome(Call call) {
        try {
            return Long.toString(call.make());
        } catch (RuntimeException e) {
            return "throws." + e.getClass().getSimpleName();
        }
    }

    /** A call that throws: the kind must be right, and nothing may change. */
    static void refuses(SpreadParity x, String what, Class<? extends RuntimeException> kind, Call call) {
        long digest = x.digest();
        int saved = x.savedStates();
        int error = x.firstError();
        same(what, outcome(call), "throws." + kind.getSimpleName());
        same(what + " changes digest():", x.digest(), digest);
        same(what + " changes savedStates():", x.savedStates(), saved);
        same(what + " changes firstError():", x.firstError(), error);
    }

    static void noIndex(SpreadParity x, String what, Call call) {
        refuses(x, what, IndexOutOfBoundsException.class, call);
    }

    static void noArgument(SpreadParity x, String what, Call call) {
        refuses(x, what, IllegalArgumentException.class, call);
    }

    static void noState(SpreadParity x, String what, Call call) {
        refuses(x, what, IllegalStateException.class, call);
    }

    /** A call that is undoable saves one state, from before it. */
    static void undoable(SpreadParity x, String what, Call call) {
        long digest = x.digest();
        int saved = Math.min(x.savedStates() + 1, 6);
        call.make();
        same(what + ", then savedStates()", x.savedStates(), saved);
        same(what + ", then undo()", x.undo(), saved - 1);
        same(what + ", then undo(), then digest()", x.digest(), digest);
    }

    static void type(SpreadParity x, String signs) {
        for (int i = 0; i < signs.length(); i++) {
            x.append(signs.charAt(i));
        }
    }

    /** What digest() must be, from the other answers. */
    static long digestDue(SpreadParity x) {
        long hash = 4184;
        int[] whole = {x.lost(), x.wrong(), x.spares(), x.losses(), x.worst()};
        for (int v : whole) {
            hash = 31 * hash + v;
        }
        for (int disc = 0; disc < 7; disc++) {
            int[] one = {x.state(disc), x.reads(disc), x.writes(disc), x.lostIfFailed(disc)};
            for (int v : one) {
                hash = 31 * hash + v;
            }
        }
        for (int address = 0; address < 42; address++) {
            hash = 31 * hash + x.peek(address);
        }
        for (int disc = 0; disc < 7; disc++) {
            for (int place = 0; place < 9; place++) {
                hash = 31 * hash + x.unit(disc, place);
            }
        }
        return hash;
    }

    static void end(String name) {
        System.out.println(name + ": " + (wrong == 0 ? "all answers are as due" : wrong + " answers are not as due"));
        if (wrong != 0) {
            System.exit(1);
        }
    }

    private static void report(String line) {
        wrong++;
        if (wrong <= 50) {
            System.out.println(line);
        }
    }
}
