import java.util.function.Consumer;

/**
 * Each number that the document bounds: the smallest and the largest one are taken, and the next
 * one on each side is refused (as are the ends of int), and the refused call changes nothing.
 */
final class NumberEdgesTest {
    private interface WithNumber {
        long make(SpreadParity x, int number);
    }

    private NumberEdgesTest() {
    }

    public static void main(String[] args) {
        readAddress();
        writeAddress();
        writeValue();
        failDisc();
        beginMendingDisc();
        mendSteps();
        corruptDisc();
        corruptPlace();
        corruptValue();
        stateDisc();
        memberStripe();
        memberMember();
        stripeAtDisc();
        stripeAtPlace();
        placeStripe();
        placeUnit();
        unitDisc();
        unitPlace();
        peekAddress();
        readsDisc();
        writesDisc();
        lostIfFailedDisc();
        loadOfDisc();
        loadOfOther();
        appendCode();
        Check.end("NumberEdgesTest");
    }

    private static final Consumer<SpreadParity> NEW = x -> { };

    // Six saved states, a disc that is being mended, one that is failed, and signs in the buffer.
    private static final Consumer<SpreadParity> BUSY = x -> {
        x.write(0, 100);
        x.write(41, 200);
        x.corrupt(6, 8, 3);
        x.fail(3);
        x.beginMending(3);
        x.mend(4);
        x.fail(5);
        Check.type(x, "c;w1=7");
    };

    private static void refusedOutside(String what, int least, int most, Class<? extends RuntimeException> kind,
            WithNumber call) {
        int[] numbers = {least - 1, most + 1, Integer.MIN_VALUE, Integer.MAX_VALUE};
        for (int n : numbers) {
            Twin.refuses(what + " " + n + " on a new array", kind, NEW, x -> call.make(x, n));
            Twin.refuses(what + " " + n + " on a busy array", kind, BUSY, x -> call.make(x, n));
        }
    }

    // Promise 2: "address: 0 to 41".
    private static void readAddress() {
        SpreadParity x = new SpreadParity();
        x.write(0, 5);
        x.write(41, 6);
        Check.same("read(0)", x.read(0), 5);
        Check.same("read(41)", x.read(41), 6);
        refusedOutside("read() of address", 0, 41, Twin.INDEX, (y, n) -> y.read(n));
    }

    // Promise 3: "address: 0 to 41". The address 41 is the unit 8 of disc 0.
    private static void writeAddress() {
        SpreadParity x = new SpreadParity();
        Check.same("write(0, 1)", x.write(0, 1), 4);
        Check.same("write(41, 2)", x.write(41, 2), 4);
        Check.same("unit(1, 0)", x.unit(1, 0), 1);
        Check.same("unit(0, 8)", x.unit(0, 8), 2);
        refusedOutside("write() to address", 0, 41, Twin.INDEX, (y, n) -> y.write(n, 1));
    }

    // Promise 3: "value: 0 to 65535".
    private static void writeValue() {
        SpreadParity x = new SpreadParity();
        Check.same("write(4, 65535)", x.write(4, 65535), 4);
        Check.same("peek(4)", x.peek(4), 65535);
        Check.same("write(4, 0)", x.write(4, 0), 4);
        Check.same("peek(4)", x.peek(4), 0);
        refusedOutside("write() of value", 0, 65535, Twin.ARGUMENT, (y, n) -> y.write(4, n));
    }

    // Promise 4: "disc: 0 to 6".
    private static void failDisc() {
        SpreadParity x = new SpreadParity();
        Check.same("fail(0)", x.fail(0), 0);
        Check.same("state(0)", x.state(0), SpreadParity.NONE);
        SpreadParity y = new SpreadParity();
        Check.same("fail(6)", y.fail(6), 0);
        Check.same("state(6)", y.state(6), SpreadParity.NONE);
        refusedOutside("fail() of disc", 0, 6, Twin.INDEX, (z, n) -> z.fail(n));
    }

    // Promise 5: "disc: 0 to 6".
    private static void beginMendingDisc() {
        SpreadParity x = new SpreadParity();
        x.fail(0);
        x.fail(6);
        Check.same("beginMending(0)", x.beginMending(0), 1);
        Check.same("state(0)", x.state(0), 0);
        Check.same("state(6)", x.state(6), SpreadParity.NONE);
        Check.same("beginMending(6)", x.beginMending(6), 0);
        Check.same("state(6)", x.state(6), 0);
        refusedOutside("beginMending() of disc", 0, 6, Twin.INDEX, (y, n) -> y.beginMending(n));
    }

    // Promise 6: "steps: 1 to 9".
    private static void mendSteps() {
        SpreadParity x = new SpreadParity();
        x.fail(2);
        x.beginMending(2);
        Check.same("mend(1)", x.mend(1), 1);
        Check.same("state(2)", x.state(2), 1);
        SpreadParity y = new SpreadParity();
        y.fail(2);
        y.beginMending(2);
        Check.same("mend(9)", y.mend(9), 9);
        Check.same("state(2)", y.state(2), 9);
        refusedOutside("mend() of steps", 1, 9, Twin.ARGUMENT, (z, n) -> z.mend(n));
    }

    // Promise 8: "disc: 0 to 6".
    private static void corruptDisc() {
        SpreadParity x = new SpreadParity();
        Check.same("corrupt(0, 3, 9)", x.corrupt(0, 3, 9), 0);
        Check.same("corrupt(6, 3, 8)", x.corrupt(6, 3, 8), 0);
        Check.same("unit(0, 3)", x.unit(0, 3), 9);
        Check.same("unit(6, 3)", x.unit(6, 3), 8);
        refusedOutside("corrupt() of disc", 0, 6, Twin.INDEX, (y, n) -> y.corrupt(n, 3, 9));
    }

    // Promise 8: "place: 0 to 8".
    private static void corruptPlace() {
        SpreadParity x = new SpreadParity();
        Check.same("corrupt(2, 0, 9)", x.corrupt(2, 0, 9), 0);
        Check.same("corrupt(2, 8, 8)", x.corrupt(2, 8, 8), 0);
        Check.same("unit(2, 0)", x.unit(2, 0), 9);
        Check.same("unit(2, 8)", x.unit(2, 8), 8);
        refusedOutside("corrupt() of place", 0, 8, Twin.INDEX, (y, n) -> y.corrupt(2, n, 9));
    }

    // Promise 8: "value: 0 to 65535".
    private static void corruptValue() {
        SpreadParity x = new SpreadParity();
        Check.same("corrupt(4, 4, 65535)", x.corrupt(4, 4, 65535), 0);
        Check.same("unit(4, 4)", x.unit(4, 4), 65535);
        Check.same("corrupt(4, 4, 0)", x.corrupt(4, 4, 0), 65535);
        Check.same("unit(4, 4)", x.unit(4, 4), 0);
        refusedOutside("corrupt() to value", 0, 65535, Twin.ARGUMENT, (y, n) -> y.corrupt(4, 4, n));
    }

    // Promise 10: "disc: 0 to 6".
    private static void stateDisc() {
        SpreadParity x = new SpreadParity();
        Check.same("state(0)", x.state(0), 9);
        Check.same("state(6)", x.state(6), 9);
        x.fail(6);
        Check.same("state(6)", x.state(6), SpreadParity.NONE);
        Check.same("state(0)", x.state(0), 9);
        refusedOutside("state() of disc", 0, 6, Twin.INDEX, (y, n) -> y.state(n));
    }

    // Promise 11: "stripe: 0 to 20".
    private static void memberStripe() {
        SpreadParity x = new SpreadParity();
        Check.same("member(0, 1)", x.member(0, 1), 1);
        Check.same("member(20, 1)", x.member(20, 1), 0);
        refusedOutside("member() of stripe", 0, 20, Twin.INDEX, (y, n) -> y.member(n, 1));
    }

    // Promise 11: "member: 0 to 2".
    private static void memberMember() {
        SpreadParity x = new SpreadParity();
        Check.same("member(2, 0)", x.member(2, 0), 2);
        Check.same("member(2, 2)", x.member(2, 2), 5);
        refusedOutside("member() of member", 0, 2, Twin.INDEX, (y, n) -> y.member(2, n));
    }

    // Promise 12: "disc: 0 to 6".
    private static void stripeAtDisc() {
        SpreadParity x = new SpreadParity();
        Check.same("stripeAt(0, 1)", x.stripeAt(0, 1), 4);
        Check.same("stripeAt(6, 1)", x.stripeAt(6, 1), 5);
        refusedOutside("stripeAt() of disc", 0, 6, Twin.INDEX, (y, n) -> y.stripeAt(n, 1));
    }

    // Promise 12: "place: 0 to 8".
    private static void stripeAtPlace() {
        SpreadParity x = new SpreadParity();
        Check.same("stripeAt(3, 0)", x.stripeAt(3, 0), 0);
        Check.same("stripeAt(3, 8)", x.stripeAt(3, 8), 17);
        refusedOutside("stripeAt() of place", 0, 8, Twin.INDEX, (y, n) -> y.stripeAt(3, n));
    }

    // Promise 13: "stripe: 0 to 20".
    private static void placeStripe() {
        SpreadParity x = new SpreadParity();
        Check.same("place(0, 1)", x.place(0, 1), 30);
        Check.same("place(20, 1)", x.place(20, 1), 8);
        refusedOutside("place() of stripe", 0, 20, Twin.INDEX, (y, n) -> y.place(n, 1));
    }

    // Promise 13: "unit: 0 or 1 for a data unit, 2 for the parity".
    private static void placeUnit() {
        SpreadParity x = new SpreadParity();
        Check.same("place(20, 0)", x.place(20, 0), 68);
        Check.same("place(20, 2)", x.place(20, 2), 28);
        refusedOutside("place() of unit", 0, 2, Twin.INDEX, (y, n) -> y.place(20, n));
    }

    // Promise 14: "disc: 0 to 6".
    private static void unitDisc() {
        SpreadParity x = new SpreadParity();
        x.corrupt(0, 5, 11);
        x.corrupt(6, 5, 12);
        Check.same("unit(0, 5)", x.unit(0, 5), 11);
        Check.same("unit(6, 5)", x.unit(6, 5), 12);
        refusedOutside("unit() of disc", 0, 6, Twin.INDEX, (y, n) -> y.unit(n, 5));
    }

    // Promise 14: "place: 0 to 8".
    private static void unitPlace() {
        SpreadParity x = new SpreadParity();
        x.corrupt(1, 0, 11);
        x.corrupt(1, 8, 12);
        Check.same("unit(1, 0)", x.unit(1, 0), 11);
        Check.same("unit(1, 8)", x.unit(1, 8), 12);
        refusedOutside("unit() of place", 0, 8, Twin.INDEX, (y, n) -> y.unit(1, n));
    }

    // Promise 15: "address: 0 to 41".
    private static void peekAddress() {
        SpreadParity x = new SpreadParity();
        x.write(0, 5);
        x.write(41, 6);
        Check.same("peek(0)", x.peek(0), 5);
        Check.same("peek(41)", x.peek(41), 6);
        refusedOutside("peek() of address", 0, 41, Twin.INDEX, (y, n) -> y.peek(n));
    }

    // Promise 20: "disc: 0 to 6". The addresses 40 and 41 are on the discs 6 and 0.
    private static void readsDisc() {
        SpreadParity x = new SpreadParity();
        x.read(40);
        x.read(40);
        x.read(41);
        Check.same("reads(0)", x.reads(0), 1);
        Check.same("reads(6)", x.reads(6), 2);
        refusedOutside("reads() of disc", 0, 6, Twin.INDEX, (y, n) -> y.reads(n));
    }

    // Promise 21: "disc: 0 to 6".
    private static void writesDisc() {
        SpreadParity x = new SpreadParity();
        x.write(40, 1);
        x.write(40, 2);
        x.write(41, 3);
        Check.same("writes(0)", x.writes(0), 1);
        Check.same("writes(6)", x.writes(6), 2);
        refusedOutside("writes() of disc", 0, 6, Twin.INDEX, (y, n) -> y.writes(n));
    }

    // Promise 23: "disc: 0 to 6".
    private static void lostIfFailedDisc() {
        SpreadParity x = new SpreadParity();
        x.fail(2);
        x.fail(4);
        x.fail(5);
        Check.same("lostIfFailed(0)", x.lostIfFailed(0), 18);
        Check.same("lostIfFailed(6)", x.lostIfFailed(6), 24);
        refusedOutside("lostIfFailed() of disc", 0, 6, Twin.INDEX, (y, n) -> y.lostIfFailed(n));
    }

    // Promise 24: "disc: 0 to 6, the disc to be mended".
    private static void loadOfDisc() {
        SpreadParity x = new SpreadParity();
        Check.same("loadOf(0, 3)", x.loadOf(0, 3), 3);
        Check.same("loadOf(6, 3)", x.loadOf(6, 3), 3);
        refusedOutside("loadOf() of disc", 0, 6, Twin.INDEX, (y, n) -> y.loadOf(n, 3));
    }

    // Promise 24: "other: 0 to 6".
    private static void loadOfOther() {
        SpreadParity x = new SpreadParity();
        Check.same("loadOf(3, 0)", x.loadOf(3, 0), 3);
        Check.same("loadOf(3, 6)", x.loadOf(3, 6), 3);
        refusedOutside("loadOf() of other", 0, 6, Twin.INDEX, (y, n) -> y.loadOf(3, n));
    }

    // Promise 26: "code: a character code, 33 to 126".
    private static void appendCode() {
        SpreadParity x = new SpreadParity();
        Check.same("append(33)", x.append(33), 1);
        Check.same("append(126)", x.append(126), 2);
        Check.same("clearText()", x.clearText(), 2);
        refusedOutside("append() of code", 33, 126, Twin.ARGUMENT, (y, n) -> y.append(n));
        // A code is not cut down to a sign: 99 + 65536 is no "c".
        int[] wide = {99 + 256, 99 + 65536, 99 - 256, 99 - 65536};
        for (int code : wide) {
            Twin.refuses("append(" + code + ")", Twin.ARGUMENT, NEW, y -> y.append(code));
        }
    }
}
