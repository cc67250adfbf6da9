import java.util.ArrayList;
import java.util.LinkedHashMap;
import java.util.List;
import java.util.Map;
import java.util.function.Consumer;
import java.util.function.ToLongFunction;

/**
 * "If more than one exception applies to a call, the one that is listed first in its throws clause
 * is thrown", and "A call that throws an exception changes nothing".
 */
final class RefusedCallsTest {
    private static final int[] NO_ADDRESSES = {-1, 42, Integer.MIN_VALUE, Integer.MAX_VALUE};
    private static final int[] NO_DISCS = {-1, 7, Integer.MIN_VALUE, Integer.MAX_VALUE};
    private static final int[] NO_PLACES = {-1, 9, Integer.MIN_VALUE, Integer.MAX_VALUE};
    private static final int[] NO_VALUES = {-1, 65536, Integer.MIN_VALUE, Integer.MAX_VALUE};
    private static final int[] NO_CODES = {32, 127, -1, Integer.MIN_VALUE, Integer.MAX_VALUE};

    private static int refused;

    private RefusedCallsTest() {
    }

    public static void main(String[] args) {
        readIndexBeforeState();
        writeIndexBeforeArgument();
        writeIndexBeforeState();
        writeArgumentBeforeState();
        writeAllThree();
        failIndexBeforeState();
        beginMendingIndexBeforeState();
        corruptIndexBeforeArgument();
        corruptIndexBeforeState();
        corruptArgumentBeforeState();
        corruptAllThree();
        appendArgumentBeforeState();
        twoNumbersOutOfRange();
        refusedCallsInEachSituation();
        Check.end("RefusedCallsTest");
    }

    private static void allFailed(SpreadParity x) {
        for (int disc = 0; disc < 7; disc++) {
            x.fail(disc);
        }
    }

    private static void readIndexBeforeState() {
        for (int address : NO_ADDRESSES) {
            Twin.refuses("read(" + address + ") where all is lost", Twin.INDEX, RefusedCallsTest::allFailed,
                    x -> x.read(address));
        }
    }

    private static void writeIndexBeforeArgument() {
        for (int address : NO_ADDRESSES) {
            for (int value : NO_VALUES) {
                Twin.refuses("write(" + address + ", " + value + ")", Twin.INDEX, x -> x.write(0, 1),
                        x -> x.write(address, value));
            }
        }
    }

    private static void writeIndexBeforeState() {
        for (int address : NO_ADDRESSES) {
            Twin.refuses("write(" + address + ", 0) where all is lost", Twin.INDEX, RefusedCallsTest::allFailed,
                    x -> x.write(address, 0));
        }
    }

    private static void writeArgumentBeforeState() {
        for (int value : NO_VALUES) {
            Twin.refuses("write(41, " + value + ") where all is lost", Twin.ARGUMENT, RefusedCallsTest::allFailed,
                    x -> x.write(41, value));
        }
    }

    private static void writeAllThree() {
        for (int address : NO_ADDRESSES) {
            for (int value : NO_VALUES) {
                Twin.refuses("write(" + address + ", " + value + ") where all is lost", Twin.INDEX,
                        RefusedCallsTest::allFailed, x -> x.write(address, value));
            }
        }
    }

    private static void failIndexBeforeState() {
        for (int disc : NO_DISCS) {
            Twin.refuses("fail(" + disc + ") where all are failed", Twin.INDEX, RefusedCallsTest::allFailed,
                    x -> x.fail(disc));
        }
    }

    private static void beginMendingIndexBeforeState() {
        for (int disc : NO_DISCS) {
            Twin.refuses("beginMending(" + disc + ") where all are sound", Twin.INDEX, x -> { },
                    x -> x.beginMending(disc));
            Twin.refuses("beginMending(" + disc + ") without a spare disc", Twin.INDEX, x -> {
                allFailed(x);
                x.beginMending(0);
                x.beginMending(1);
            }, x -> x.beginMending(disc));
        }
    }

    private static void corruptIndexBeforeArgument() {
        for (int value : NO_VALUES) {
            for (int disc : NO_DISCS) {
                Twin.refuses("corrupt(" + disc + ", 0, " + value + ")", Twin.INDEX, x -> { },
                        x -> x.corrupt(disc, 0, value));
            }
            for (int place : NO_PLACES) {
                Twin.refuses("corrupt(0, " + place + ", " + value + ")", Twin.INDEX, x -> { },
                        x -> x.corrupt(0, place, value));
            }
        }
    }

    private static void corruptIndexBeforeState() {
        for (int disc : NO_DISCS) {
            Twin.refuses("corrupt(" + disc + ", 0, 1) where all are failed", Twin.INDEX, RefusedCallsTest::allFailed,
                    x -> x.corrupt(disc, 0, 1));
        }
        for (int place : NO_PLACES) {
            Twin.refuses("corrupt(0, " + place + ", 1) where all are failed", Twin.INDEX,
                    RefusedCallsTest::allFailed, x -> x.corrupt(0, place, 1));
        }
    }

    private static void corruptArgumentBeforeState() {
        for (int value : NO_VALUES) {
            Twin.refuses("corrupt(6, 8, " + value + ") where all are failed", Twin.ARGUMENT,
                    RefusedCallsTest::allFailed, x -> x.corrupt(6, 8, value));
            Twin.refuses("corrupt(6, 8, " + value + ") at progress 8", Twin.ARGUMENT, x -> {
                x.fail(6);
                x.beginMending(6);
                x.mend(8);
            }, x -> x.corrupt(6, 8, value));
        }
    }

    private static void corruptAllThree() {
        for (int i = 0; i < 4; i++) {
            int disc = NO_DISCS[i];
            int place = NO_PLACES[i];
            int value = NO_VALUES[i];
            Twin.refuses("corrupt(" + disc + ", 8, " + value + ") where all are failed", Twin.INDEX,
                    RefusedCallsTest::allFailed, x -> x.corrupt(disc, 8, value));
            Twin.refuses("corrupt(6, " + place + ", " + value + ") where all are failed", Twin.INDEX,
                    RefusedCallsTest::allFailed, x -> x.corrupt(6, place, value));
            Twin.refuses("corrupt(" + disc + ", " + place + ", " + value + ") where all are failed", Twin.INDEX,
                    RefusedCallsTest::allFailed, x -> x.corrupt(disc, place, value));
        }
    }

    private static void appendArgumentBeforeState() {
        for (int code : NO_CODES) {
            Twin.refuses("append(" + code + ") to a full buffer", Twin.ARGUMENT, RefusedCallsTest::fullBuffer,
                    x -> x.append(code));
        }
    }

    private static void fullBuffer(SpreadParity x) {
        for (int i = 0; i < 60; i++) {
            x.append(i % 2 == 0 ? 'c' : ';');
        }
    }

    private static void twoNumbersOutOfRange() {
        for (int n : NO_PLACES) {
            for (int m : new int[] {-1, 21, Integer.MIN_VALUE, Integer.MAX_VALUE}) {
                Twin.refuses("member(" + m + ", " + n + ")", Twin.INDEX, x -> { }, x -> x.member(m, n));
                Twin.refuses("place(" + m + ", " + n + ")", Twin.INDEX, x -> { }, x -> x.place(m, n));
                Twin.refuses("stripeAt(" + m + ", " + n + ")", Twin.INDEX, x -> { }, x -> x.stripeAt(m, n));
                Twin.refuses("unit(" + m + ", " + n + ")", Twin.INDEX, x -> { }, x -> x.unit(m, n));
                Twin.refuses("loadOf(" + m + ", " + n + ")", Twin.INDEX, x -> { }, x -> x.loadOf(m, n));
            }
        }
        for (int n : NO_DISCS) {
            Twin.refuses("loadOf(" + n + ", " + n + ")", Twin.INDEX, x -> { }, x -> x.loadOf(n, n));
        }
    }

    // Whatever is refused, wherever: nothing that comes later may tell of it.
    private static void refusedCallsInEachSituation() {
        Map<String, ToLongFunction<SpreadParity>> calls = calls();
        situations().forEach((where, before) -> calls.forEach((what, call) -> {
            SpreadParity x = new SpreadParity();
            before.accept(x);
            if (Check.outcome(() -> call.applyAsLong(x)).startsWith("throws.")) {
                refused++;
                Twin.changesNothing(what + " " + where, before, call);
            }
        }));
        Check.holds("many calls are refused", refused > 400);
    }

    private static Map<String, Consumer<SpreadParity>> situations() {
        Map<String, Consumer<SpreadParity>> all = new LinkedHashMap<>();
        all.put("on a new array", x -> { });
        all.put("with five spare discs and six saved states", x -> {
            x.write(0, 1);
            x.write(1, 2);
            x.addSpare();
            x.addSpare();
            x.addSpare();
            x.corrupt(6, 6, 6);
            Check.type(x, "f2;w0=");
        });
        all.put("while two discs are being mended", x -> {
            x.write(0, 1);
            x.write(41, 2);
            x.fail(0);
            x.fail(6);
            x.beginMending(0);
            x.mend(4);
            x.beginMending(6);
            x.fail(3);
            Check.type(x, "f1;c;");
        });
        all.put("where a disc has failed again", x -> {
            x.write(40, 65535);
            x.fail(6);
            x.beginMending(6);
            x.mend(8);
            x.fail(6);
            Check.type(x, "f1;f7");
        });
        all.put("where all are failed, with a full buffer", x -> {
            allFailed(x);
            fullBuffer(x);
        });
        all.put("where nothing is saved any more", x -> {
            x.fail(5);
            x.undo();
            Check.type(x, "w1=1;m");
        });
        return all;
    }

    private static Map<String, ToLongFunction<SpreadParity>> calls() {
        Map<String, ToLongFunction<SpreadParity>> all = new LinkedHashMap<>();
        for (int address : numbers(41)) {
            all.put("read(" + address + ")", x -> x.read(address));
            all.put("peek(" + address + ")", x -> x.peek(address));
            for (int value : new int[] {-1, 7, 65535, 65536}) {
                all.put("write(" + address + ", " + value + ")", x -> x.write(address, value));
            }
        }
        for (int disc : numbers(6)) {
            all.put("fail(" + disc + ")", x -> x.fail(disc));
            all.put("beginMending(" + disc + ")", x -> x.beginMending(disc));
            all.put("state(" + disc + ")", x -> x.state(disc));
            all.put("reads(" + disc + ")", x -> x.reads(disc));
            all.put("writes(" + disc + ")", x -> x.writes(disc));
            all.put("lostIfFailed(" + disc + ")", x -> x.lostIfFailed(disc));
            for (int place : numbers(8)) {
                all.put("unit(" + disc + ", " + place + ")", x -> x.unit(disc, place));
                all.put("corrupt(" + disc + ", " + place + ", 99)", x -> x.corrupt(disc, place, 99));
                all.put("corrupt(" + disc + ", " + place + ", -1)", x -> x.corrupt(disc, place, -1));
            }
        }
        for (int steps : numbers(9)) {
            all.put("mend(" + steps + ")", x -> x.mend(steps));
        }
        for (int code : new int[] {Integer.MIN_VALUE, -1, 0, 32, 99, 127, Integer.MAX_VALUE}) {
            all.put("append(" + code + ")", x -> x.append(code));
        }
        all.put("addSpare()", SpreadParity::addSpare);
        all.put("run()", SpreadParity::run);
        all.put("undo()", SpreadParity::undo);
        return all;
    }

    private static List<Integer> numbers(int most) {
        return new ArrayList<>(List.of(Integer.MIN_VALUE, -1, 0, most, most + 1, Integer.MAX_VALUE));
    }
}
