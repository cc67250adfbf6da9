/**
 * The boundary cases of the buffer and of the orders in it: for each sentence of the document a
 * test of its own.
 */
final class TextEdgesTest {
    private static final int NONE = SpreadParity.NONE;

    private TextEdgesTest() {
    }

    public static void main(String[] args) {
        emptyBuffer();
        fullBuffer();
        fullBufferIsEmptied();
        oneOrderIsEnough();
        semicolonsStandBetween();
        addressesEndAt41();
        valuesEndAt65535();
        noLeadingZeros();
        numbersAreNotEmpty();
        discsEndAt6();
        stepsFrom1To9();
        scrubHasNoNumber();
        signsBesideTheDigits();
        otherLetters();
        firstOfManyErrors();
        textMayGoOnBeyondTheBuffer();
        allCodesAsFirstSign();
        runOfAnEmptyBuffer();
        runOfAnIncompleteText();
        runOfAnError();
        runOfNoOrder();
        runUpToARefusedWrite();
        runUpToARefusedFailure();
        runUpToARefusedMending();
        runOfStepsWithoutADisc();
        runOfTheSmallestAndLargestNumbers();
        runOf30Orders();
        runIsUndoneAtOnce();
        runWithSixSavedStates();
        runThatIsRefusedWithSixSavedStates();
        runEmptiesTheBuffer();
        shorterTextThanBefore();
        longestNumbers();
        Check.end("TextEdgesTest");
    }

    private static SpreadParity with(String text) {
        SpreadParity x = new SpreadParity();
        Check.type(x, text);
        return x;
    }

    private static String times(String signs, int count) {
        StringBuilder all = new StringBuilder();
        for (int i = 0; i < count; i++) {
            all.append(signs);
        }
        return all.toString();
    }

    private static void error(String text, int due) {
        Check.same("firstError() of " + text, with(text).firstError(), due);
        Twin.refuses("run() of " + text, Twin.ARGUMENT, x -> Check.type(x, text), SpreadParity::run);
        Check.same("signs before run() of " + text, with(text).clearText(), text.length());
    }

    // No sign is an error, but the text is not complete.
    private static void incomplete(String text) {
        error(text, text.length());
    }

    private static void complete(String text) {
        SpreadParity x = with(text);
        Check.same("firstError() of " + text, x.firstError(), text.length());
        Check.holds("run() takes " + text, x.run() >= 0);
        Check.same("savedStates() after " + text, x.savedStates(), 1);
    }

    // "and is empty at first"
    private static void emptyBuffer() {
        SpreadParity x = new SpreadParity();
        Check.same("firstError()", x.firstError(), 0);
        Check.same("clearText()", x.clearText(), 0);
        Check.same("clearText() again", x.clearText(), 0);
        Check.same("append('c')", x.append('c'), 1);
    }

    // "The buffer contains at most 60 characters"
    private static void fullBuffer() {
        SpreadParity x = new SpreadParity();
        for (int i = 1; i <= 60; i++) {
            Check.same("append('~')", x.append('~'), i);
        }
        Check.same("clearText()", x.clearText(), 60);
        Twin.refuses("append('c') to 60 signs", Twin.STATE, y -> Check.type(y, times("c;", 30)), y -> y.append('c'));
        Twin.refuses("append('c') to 60 signs that are no orders", Twin.STATE, y -> Check.type(y, times("x", 60)),
                y -> y.append('c'));
    }

    private static void fullBufferIsEmptied() {
        SpreadParity x = with(times("c;", 30));
        Check.same("clearText()", x.clearText(), 60);
        Check.same("append('c')", x.append('c'), 1);
        Check.same("firstError()", x.firstError(), 1);
        Check.same("run()", x.run(), 1);
        Check.type(x, times("x", 60));
        Check.same("firstError()", x.firstError(), 0);
        Check.same("clearText()", x.clearText(), 60);
    }

    // "one or more orders"
    private static void oneOrderIsEnough() {
        String[] texts = {"w0=0", "f0", "m0", "s1", "c"};
        for (String text : texts) {
            complete(text);
            complete(text + ";" + text);
        }
        incomplete("");
    }

    // "with ";" between them"
    private static void semicolonsStandBetween() {
        error(";", 0);
        error(";c", 0);
        error("c;;c", 2);
        error("cc", 1);
        error("f1f2", 2);
        error("m1m2", 2);
        error("s1s2", 2);
        error("w1=1w", 4);
        error("f;", 1);
        error("m;", 1);
        error("s;", 1);
        error("w;", 1);
        error("w1;", 2);
        error("w1=;", 3);
        incomplete("c;");
        incomplete("f1;");
        incomplete("m1;");
        incomplete("s1;");
        incomplete("w1=1;");
        incomplete("w41=65535;");
    }

    // "Addresses (0 to 41)"
    private static void addressesEndAt41() {
        complete("w0=1");
        complete("w9=1");
        complete("w10=1");
        complete("w39=1");
        complete("w40=1");
        complete("w41=1");
        error("w42", 2);
        error("w49", 2);
        error("w50", 2);
        error("w99", 2);
        error("w100", 3);
        error("w410", 3);
        error("w42=1", 2);
    }

    // The values of units: "from 0 to 65535"
    private static void valuesEndAt65535() {
        complete("w1=0");
        complete("w1=9999");
        complete("w1=10000");
        complete("w1=65529");
        complete("w1=65530");
        complete("w1=65535");
        error("w1=65536", 7);
        error("w1=65540", 7);
        error("w1=66000", 7);
        error("w1=70000", 7);
        error("w1=99999", 7);
        error("w1=100000", 8);
        error("w1=655350", 8);
        error("w1=4294967295", 8);
    }

    // "numbers without leading zeros"
    private static void noLeadingZeros() {
        error("w00", 2);
        error("w01", 2);
        error("w09=1", 2);
        error("w1=00", 4);
        error("w1=01", 4);
        complete("w0=0;w0=0");
        complete("w10=10");
        complete("w20=100");
    }

    private static void numbersAreNotEmpty() {
        error("w=", 1);
        error("w1==", 3);
        incomplete("w");
        incomplete("w1");
        incomplete("w41");
        incomplete("w1=");
        incomplete("f");
        incomplete("m");
        incomplete("s");
    }

    // "a disc is a digit from 0 to 6"
    private static void discsEndAt6() {
        complete("f0");
        complete("f6");
        complete("m0");
        complete("m6");
        error("f7", 1);
        error("f9", 1);
        error("m7", 1);
        error("m9", 1);
        error("f00", 2);
        error("f06", 2);
        error("m10", 2);
    }

    // ""s" and a number from 1 to 9"
    private static void stepsFrom1To9() {
        for (int steps = 1; steps <= 9; steps++) {
            complete("s" + steps);
        }
        error("s0", 1);
        error("s01", 1);
        error("s10", 2);
        error("s99", 2);
    }

    private static void scrubHasNoNumber() {
        error("c0", 1);
        error("c1", 1);
        error("c=", 1);
        complete("c;c");
    }

    // "/" and ":" stand beside the digits.
    private static void signsBesideTheDigits() {
        String[] texts = {"w", "f", "m", "s", "w1", "w1=", "w1=1"};
        for (String text : texts) {
            error(text + "/", text.length());
            error(text + ":", text.length());
            error(text + "-", text.length());
            error(text + "+", text.length());
        }
    }

    private static void otherLetters() {
        String[] texts = {"W", "F", "M", "S", "C", "a", "z", "!", "~", "0", "9", "="};
        for (String text : texts) {
            error(text, 0);
            error("c;" + text, 2);
        }
    }

    // "the index of the first character that is an error"
    private static void firstOfManyErrors() {
        error("xyz", 0);
        error("c;x;y", 2);
        error("f7;m7;s0", 1);
        error("s1;w42=70000", 5);
        error(times("c;", 29) + "cx", 59);
    }

    // "if no order text, however long, begins with .."
    private static void textMayGoOnBeyondTheBuffer() {
        incomplete(times("c;", 30));
        incomplete("c;f0;" + times("c;", 27) + "w");
        incomplete("c;f0;" + times("c;", 27) + "f");
        incomplete("w10=10000;w11=11111;w12=22222;w13=33333;w14=44444;w15=55555;");
        incomplete("w0=10000;w11=11111;w12=22222;w13=33333;w14=44444;w15=55555;w");
        complete("w0=10000;w11=11111;w12=22222;w13=33333;w14=44444;w15=55555;c");
    }

    private static void allCodesAsFirstSign() {
        for (int code = 33; code <= 126; code++) {
            boolean begins = code == 'w' || code == 'f' || code == 'm' || code == 's' || code == 'c';
            SpreadParity x = new SpreadParity();
            x.append(code);
            Check.same("firstError() of the code " + code, x.firstError(), begins ? 1 : 0);
        }
    }

    // Promise 29: "if the buffer is not a complete order text (the buffer stays)"
    private static void runOfAnEmptyBuffer() {
        Twin.refuses("run() of an empty buffer", Twin.ARGUMENT, x -> { }, SpreadParity::run);
        Twin.refuses("run() after run()", Twin.ARGUMENT, x -> {
            Check.type(x, "c");
            x.run();
        }, SpreadParity::run);
        Twin.refuses("run() after clearText()", Twin.ARGUMENT, x -> {
            Check.type(x, "c");
            x.clearText();
        }, SpreadParity::run);
    }

    private static void runOfAnIncompleteText() {
        SpreadParity x = with("f1;f");
        Check.noArgument(x, "run() of f1;f", x::run);
        Check.same("state(1), as no order is executed", x.state(1), 9);
        Check.same("append('2')", x.append('2'), 5);
        Check.same("run() of f1;f2", x.run(), 2);
        Check.same("state(1)", x.state(1), NONE);
        Check.same("state(2)", x.state(2), NONE);
    }

    private static void runOfAnError() {
        SpreadParity x = with("f1;f7");
        Check.noArgument(x, "run() of f1;f7", x::run);
        Check.same("state(1), as no order is executed", x.state(1), 9);
        Check.same("savedStates()", x.savedStates(), 0);
        Check.same("clearText()", x.clearText(), 5);
    }

    // "also if no order is executed"
    private static void runOfNoOrder() {
        SpreadParity x = with("m0;f0;c");
        Check.same("run()", x.run(), 0);
        Check.same("savedStates()", x.savedStates(), 1);
        Check.same("clearText()", x.clearText(), 0);
        Check.same("digest()", x.digest(), new SpreadParity().digest());
        Check.same("undo()", x.undo(), 0);
        Check.same("digest()", x.digest(), new SpreadParity().digest());
    }

    // "up to the first one whose method would throw an exception"
    private static void runUpToARefusedWrite() {
        SpreadParity x = with("w0=5;f1;w0=6;f0;w0=7;f2");
        Check.same("run()", x.run(), 4);
        Check.same("state(2)", x.state(2), 9);
        Check.same("writes(0)", x.writes(0), 2);
        Check.same("clearText()", x.clearText(), 0);
        SpreadParity y = with("f0;f1;f3;w1=0;c");
        Check.same("run()", y.run(), 3);
        Check.same("reads(2)", y.reads(2), 0);
    }

    private static void runUpToARefusedFailure() {
        SpreadParity x = with("f6;f6;f5");
        Check.same("run()", x.run(), 1);
        Check.same("state(5)", x.state(5), 9);
        SpreadParity y = with("f6;m6;f6;f6;f5");
        Check.same("run(), as a disc that is being mended may fail", y.run(), 3);
        Check.same("state(6)", y.state(6), NONE);
    }

    private static void runUpToARefusedMending() {
        Check.same("run() with m of a sound disc", with("c;m1;c").run(), 1);
        Check.same("run() with m of a disc that is being mended", with("f1;m1;m1;c").run(), 2);
        Check.same("run() with m of a disc that is sound again", with("f1;m1;s9;m1;c").run(), 3);
        Check.same("run() with m without a spare disc", with("f1;f2;f3;m1;m2;m3;c").run(), 5);
        SpreadParity x = with("f1;f2;f3;m1;m2;m3;c");
        x.addSpare();
        Check.same("run() with m and three spare discs", x.run(), 7);
        Check.same("spares()", x.spares(), 0);
    }

    // mend() without a disc to mend throws nothing.
    private static void runOfStepsWithoutADisc() {
        Check.same("run() of s9;s1;c", with("s9;s1;c").run(), 3);
        Check.same("run() of f1;s9;c", with("f1;s9;c").run(), 3);
        Check.same("run() of c where all are failed", with("f0;f1;f2;f3;f4;f5;f6;s1;c").run(), 9);
    }

    private static void runOfTheSmallestAndLargestNumbers() {
        SpreadParity x = with("w0=65535;w41=0;w41=65535;w0=0;f0;f6;m0;m6;s1;s9");
        Check.same("run()", x.run(), 10);
        Check.same("peek(0)", x.peek(0), 0);
        Check.same("peek(41)", x.peek(41), 0);
        Check.same("losses(), of the places that the discs 0 and 6 share", x.losses(), 3);
        Check.same("state(0)", x.state(0), 9);
        Check.same("state(6)", x.state(6), 1);
        Check.same("spares()", x.spares(), 0);
    }

    private static void runOf30Orders() {
        SpreadParity x = with(times("c;", 29) + "c");
        Check.same("run()", x.run(), 30);
        for (int disc = 0; disc < 7; disc++) {
            Check.same("reads(" + disc + ")", x.reads(disc), 270);
        }
        Check.same("savedStates()", x.savedStates(), 1);
        SpreadParity y = with("s1;" + times("c;", 28) + "c");
        Check.same("run()", y.run(), 30);
        Check.same("reads(6)", y.reads(6), 29 * 9);
    }

    // "Undoable, as one call"
    private static void runIsUndoneAtOnce() {
        SpreadParity x = new SpreadParity();
        x.write(0, 1);
        long digest = x.digest();
        Check.type(x, "w0=2;f0;m0;s3;c;f1;w41=9");
        Check.same("run()", x.run(), 7);
        Check.same("savedStates()", x.savedStates(), 2);
        Check.same("undo()", x.undo(), 1);
        Check.same("digest()", x.digest(), digest);
        Check.same("clearText(), as undo() leaves the buffer alone", x.clearText(), 0);
    }

    private static void runWithSixSavedStates() {
        SpreadParity x = new SpreadParity();
        for (int i = 0; i < 6; i++) {
            x.write(0, i + 1);
        }
        Check.type(x, "w0=100;w0=101;w0=102;w0=103;w0=104;w0=105;w0=106");
        Check.same("run()", x.run(), 7);
        Check.same("savedStates()", x.savedStates(), 6);
        for (int due = 6; due >= 1; due--) {
            Check.same("undo()", x.undo(), due - 1);
            Check.same("peek(0)", x.peek(0), due);
        }
        Check.noState(x, "undo() of the oldest state, that was discarded", x::undo);
    }

    private static void runThatIsRefusedWithSixSavedStates() {
        String[] texts = {"", "w", "c;", "c;x"};
        for (String text : texts) {
            Twin.refuses("run() of " + text + " with six saved states", Twin.ARGUMENT, x -> {
                for (int i = 0; i < 6; i++) {
                    x.write(0, i + 1);
                }
                Check.type(x, text);
            }, SpreadParity::run);
        }
    }

    // ".. and empties the buffer", also if it stops early.
    private static void runEmptiesTheBuffer() {
        String[] texts = {"c", "m1", "f1;f1", times("c;", 29) + "c"};
        for (String text : texts) {
            SpreadParity x = with(text);
            x.run();
            Check.same("firstError() after " + text, x.firstError(), 0);
            Check.same("clearText() after " + text, x.clearText(), 0);
            Check.same("append('f')", x.append('f'), 1);
            Check.same("append('1')", x.append('1'), 2);
            Check.same("firstError()", x.firstError(), 2);
        }
    }

    // No sign of an emptied buffer may come back behind a shorter text.
    private static void shorterTextThanBefore() {
        SpreadParity x = with("w0=1234");
        Check.same("run() of w0=1234", x.run(), 1);
        Check.type(x, "w0=5");
        Check.same("firstError() of w0=5", x.firstError(), 4);
        Check.same("run() of w0=5", x.run(), 1);
        Check.same("peek(0)", x.peek(0), 5);
        Check.type(x, "w41=7;c;f1;f2");
        Check.same("clearText()", x.clearText(), 13);
        Check.type(x, "w0=6");
        Check.same("run() of w0=6", x.run(), 1);
        Check.same("peek(0)", x.peek(0), 6);
        Check.same("state(1)", x.state(1), 9);
        Check.type(x, "c;c");
        x.clearText();
        Check.type(x, "c");
        Check.same("run() of c", x.run(), 1);
        Check.type(x, "f1x");
        x.clearText();
        Check.type(x, "f1");
        Check.same("firstError() of f1", x.firstError(), 2);
        Check.type(x, ";");
        Check.noArgument(x, "run() of f1;", x::run);
    }

    // Numbers that an int or a long could not hold.
    private static void longestNumbers() {
        error("w1=" + times("9", 57), 7);
        error("w" + times("1", 59), 3);
        error("w1=0" + times("0", 56), 4);
        error("w4294967297=1", 2);
        error("s4294967297", 2);
        error("f4294967297", 2);
    }
}
