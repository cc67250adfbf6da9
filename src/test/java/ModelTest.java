import java.util.Random;

/** Long runs of calls, the same ones each time, against the naive array. */
final class ModelTest {
    private static final int RUNS = 4000;
    private static final int CALLS = 100;

    private ModelTest() {
    }

    public static void main(String[] args) {
        for (int run = 0; run < RUNS; run++) {
            oneRun(run);
        }
        Check.end("ModelTest");
    }

    private static void oneRun(int run) {
        Random random = new Random(run);
        SpreadParity x = new SpreadParity();
        NaiveArray y = new NaiveArray();
        // Some runs have few failures, others many.
        int wildness = random.nextInt(4);
        for (int i = 0; i < CALLS; i++) {
            oneCall("run " + run + ", call " + i + ": ", random, wildness, x, y);
            Check.same("run " + run + ", call " + i + ": digest()", x.digest(), y.digest());
            Check.same("run " + run + ", call " + i + ": savedStates()", x.savedStates(), y.savedStates());
        }
    }

    private static int number(Random random, int limit) {
        int kind = random.nextInt(40);
        return kind == 0 ? -1 : kind == 1 ? limit : random.nextInt(limit);
    }

    private static int value(Random random) {
        int[] some = {0, 1, 65535, 65534, 65536, -1};
        return random.nextInt(8) == 0 ? some[random.nextInt(some.length)] : random.nextInt(65536);
    }

    private static void oneCall(String at, Random random, int wildness, SpreadParity x, NaiveArray y) {
        int kind = random.nextInt(20);
        int a = number(random, 42);
        int d = number(random, 7);
        int p = number(random, 9);
        int v = value(random);
        if (kind < 4) {
            same(at + "write(" + a + ", " + v + ")", () -> x.write(a, v), () -> y.write(a, v));
        } else if (kind < 6) {
            same(at + "read(" + a + ")", () -> x.read(a), () -> y.read(a));
        } else if (kind < 7 + wildness / 2) {
            same(at + "fail(" + d + ")", () -> x.fail(d), () -> y.fail(d));
        } else if (kind < 10) {
            same(at + "beginMending(" + d + ")", () -> x.beginMending(d), () -> y.beginMending(d));
        } else if (kind < 12) {
            same(at + "mend(" + p + ")", () -> x.mend(p), () -> y.mend(p));
        } else if (kind < 13) {
            same(at + "addSpare()", x::addSpare, y::addSpare);
        } else if (kind < 15) {
            same(at + "corrupt(" + d + ", " + p + ", " + v + ")", () -> x.corrupt(d, p, v), () -> y.corrupt(d, p, v));
        } else if (kind < 16) {
            same(at + "scrub()", x::scrub, y::scrub);
        } else if (kind < 18) {
            orders(at, random, x, y);
        } else if (kind < 19) {
            same(at + "undo()", x::undo, y::undo);
        } else {
            queries(at, a, d, p, x, y);
        }
    }

    private static void same(String what, Check.Call x, Check.Call y) {
        Check.same(what, Check.outcome(x), Check.outcome(y));
    }

    private static void orders(String at, Random random, SpreadParity x, NaiveArray y) {
        int count = 1 + random.nextInt(4);
        StringBuilder text = new StringBuilder();
        for (int i = 0; i < count; i++) {
            text.append(i == 0 ? "" : ";").append(order(random));
        }
        String signs = random.nextInt(10) == 0 ? text + ";" : text.toString();
        for (int i = 0; i < signs.length(); i++) {
            int code = signs.charAt(i);
            same(at + "append(" + code + ")", () -> x.append(code), () -> y.append(code));
        }
        same(at + "run() of " + signs, x::run, y::run);
        same(at + "clearText()", x::clearText, y::clearText);
    }

    private static String order(Random random) {
        switch (random.nextInt(6)) {
            case 0:
                return "w" + random.nextInt(42) + "=" + random.nextInt(65536);
            case 1:
                return "f" + random.nextInt(7);
            case 2:
                return "m" + random.nextInt(7);
            case 3:
                return "s" + (1 + random.nextInt(9));
            case 4:
                return "c";
            default:
                return "w" + random.nextInt(42) + "=" + random.nextInt(10);
        }
    }

    private static void queries(String at, int a, int d, int p, SpreadParity x, NaiveArray y) {
        same(at + "peek(" + a + ")", () -> x.peek(a), () -> y.peek(a));
        same(at + "unit(" + d + ", " + p + ")", () -> x.unit(d, p), () -> y.unit(d, p));
        same(at + "state(" + d + ")", () -> x.state(d), () -> y.state(d));
        same(at + "reads(" + d + ")", () -> x.reads(d), () -> y.reads(d));
        same(at + "writes(" + d + ")", () -> x.writes(d), () -> y.writes(d));
        same(at + "lostIfFailed(" + d + ")", () -> x.lostIfFailed(d), () -> y.lostIfFailed(d));
        Check.same(at + "balance()", x.balance(), y.balance());
        Check.same(at + "lost()", x.lost(), y.lost());
        Check.same(at + "wrong()", x.wrong(), y.wrong());
        Check.same(at + "spares()", x.spares(), y.spares());
        Check.same(at + "losses()", x.losses(), y.losses());
        Check.same(at + "worst()", x.worst(), y.worst());
    }
}
