import java.util.regex.Matcher;
import java.util.regex.Pattern;

/** Promises 26 to 29: the buffer and the orders in it. */
final class OrderTextTest {
    private static final String ADDRESS = "(?:[0-9]|[1-3][0-9]|4[01])";
    private static final String VALUE = "(?:0|[1-9][0-9]{0,3}|[1-5][0-9]{4}|6[0-4][0-9]{3}|65[0-4][0-9]{2}"
            + "|655[0-2][0-9]|6553[0-5])";
    private static final String ORDER = "(?:w" + ADDRESS + "=" + VALUE + "|[fm][0-6]|s[1-9]|c)";
    private static final Pattern TEXT = Pattern.compile(ORDER + "(?:;" + ORDER + ")*");

    private OrderTextTest() {
    }

    public static void main(String[] args) {
        appending();
        clearing();
        shortTexts("", 3);
        aroundAddresses();
        aroundValues();
        someErrors();
        fullBuffer();
        running();
        runningStops();
        runningIsOneCall();
        runningRefused();
        eachOrder();
        Check.end("OrderTextTest");
    }

    private static void appending() {
        SpreadParity x = new SpreadParity();
        Check.same("append(33)", x.append(33), 1);
        Check.same("append(126)", x.append(126), 2);
        int[] wrong = {32, 127, 0, -1, 10, 128, 233, Integer.MIN_VALUE, Integer.MAX_VALUE};
        for (int code : wrong) {
            SpreadParity y = new SpreadParity();
            Check.noArgument(y, "append(" + code + ")", () -> y.append(code));
            Check.same("clearText()", y.clearText(), 0);
        }
        for (int i = 2; i < 60; i++) {
            Check.same("append('c')", x.append('c'), i + 1);
        }
        Check.noState(x, "append('c') beyond 60", () -> x.append('c'));
        SpreadParity z = x;
        Check.noArgument(z, "append(32) beyond 60", () -> z.append(32));
        Check.same("savedStates()", x.savedStates(), 0);
        Check.same("clearText()", x.clearText(), 60);
    }

    private static void clearing() {
        SpreadParity x = new SpreadParity();
        Check.same("clearText()", x.clearText(), 0);
        Check.type(x, "w1;");
        Check.same("firstError()", x.firstError(), 2);
        Check.same("clearText()", x.clearText(), 3);
        Check.same("firstError()", x.firstError(), 0);
        Check.same("clearText()", x.clearText(), 0);
        Check.same("savedStates()", x.savedStates(), 0);
        Check.same("append('c')", x.append('c'), 1);
        Check.same("firstError()", x.firstError(), 1);
    }

    // All texts of a few of the characters that matter, against the grammar as a pattern.
    private static void shortTexts(String text, int more) {
        examine(text);
        if (more > 0) {
            String signs = "wfmsc;=0145679x!/:~WC";
            for (int i = 0; i < signs.length(); i++) {
                shortTexts(text + signs.charAt(i), more - 1);
            }
        }
    }

    private static void aroundAddresses() {
        for (int address = 0; address < 1000; address++) {
            examine("w" + address);
            examine("w" + address + "=1");
            examine("c;w" + address + "=1;s9");
            examine("w0" + address + "=1");
        }
    }

    private static void aroundValues() {
        int[] values = {0, 1, 9, 10, 99, 100, 999, 1000, 6553, 6554, 9999, 10000, 59999, 60000, 65529, 65530,
            65534, 65535, 65536, 65537, 65540, 65600, 66000, 70000, 99999, 100000, 655350, 655359, 1000000};
        for (int value : values) {
            examine("w7=" + value);
            examine("w7=0" + value);
            examine("w41=" + value + ";c");
            examine("w41=" + value + "=");
        }
        examine("w7=4294967296");
        examine("w7=99999999999999999999");
        examine("w4294967296=1");
    }

    private static void someErrors() {
        String[] texts = {"", ";", ";c", "c;;c", "c;", "f3;m", "f7", "m7", "m-1", "s0", "s10", "s9;s1", "cc", "w=1",
            "w1=", "w1=;c", "w1==1", "w1=1;", "w1=1;w", "w1;c", "W1=1", "f1f2", "m1;f10", "x", "w1=-1", "w+1=1", "ww",
            "s5c", "c;x;c", "w00=1", "w1=00", "w0=0;w41=65535;f6;m6;s9;c"};
        for (String text : texts) {
            examine(text);
        }
    }

    private static void fullBuffer() {
        StringBuilder orders = new StringBuilder("c");
        while (orders.length() < 59) {
            orders.append(";c");
        }
        examine(orders.toString());
        examine(orders + ";");
        SpreadParity x = new SpreadParity();
        Check.type(x, orders.toString());
        Check.same("run() of 30 orders", x.run(), 30);
        Check.same("reads(0)", x.reads(0), 30 * 9);
        Check.same("savedStates()", x.savedStates(), 1);
        SpreadParity y = new SpreadParity();
        Check.type(y, orders + ";");
        Check.same("firstError() of a text that goes on", y.firstError(), 60);
        Check.noArgument(y, "run() of a text that goes on", y::run);
        Check.same("clearText()", y.clearText(), 60);
        SpreadParity z = new SpreadParity();
        Check.type(z, "w10=10000;w11=11111;w12=22222;w13=33333;w14=44444;w15=55555;");
        Check.same("firstError()", z.firstError(), 60);
    }

    private static void examine(String text) {
        SpreadParity x = new SpreadParity();
        String seen = text.length() > 60 ? text.substring(0, 60) : text;
        Check.type(x, seen);
        Check.same("firstError() of " + seen, x.firstError(), firstErrorDue(seen));
        Check.same("firstError() again of " + seen, x.firstError(), firstErrorDue(seen));
        boolean complete = TEXT.matcher(seen).matches();
        String outcome = Check.outcome(x::run);
        Check.same("run() throws for " + seen, outcome.equals("throws.IllegalArgumentException") ? 1 : 0,
                complete ? 0 : 1);
        Check.same("savedStates() after run() of " + seen, x.savedStates(), complete ? 1 : 0);
        Check.same("clearText() after run() of " + seen, x.clearText(), complete ? 0 : seen.length());
    }

    private static int firstErrorDue(String text) {
        for (int i = 0; i < text.length(); i++) {
            Matcher matcher = TEXT.matcher(text.substring(0, i + 1));
            if (!matcher.matches() && !matcher.hitEnd()) {
                return i;
            }
        }
        return text.length();
    }

    private static void running() {
        SpreadParity x = new SpreadParity();
        Check.type(x, "w0=100;w1=60;f1;m1;s3;w0=7;s9;c");
        Check.same("run()", x.run(), 8);
        Check.same("peek(0)", x.peek(0), 7);
        Check.same("peek(1)", x.peek(1), 60);
        Check.same("state(1)", x.state(1), 9);
        Check.same("spares()", x.spares(), 1);
        Check.same("clearText()", x.clearText(), 0);
        SpreadParity y = new SpreadParity();
        y.write(0, 100);
        y.write(1, 60);
        y.fail(1);
        y.beginMending(1);
        y.mend(3);
        y.write(0, 7);
        y.mend(9);
        y.scrub();
        Check.same("digest() after run() and after calls", x.digest(), y.digest());
    }

    private static void runningStops() {
        String[] texts = {"m3;f0", "f0;f0;f1", "f0;f1;w0=1;f2", "f0;m0;m0;c", "f0;m0;f1;m1;f2;m2;c", "f0;m1;c"};
        int[] due = {0, 1, 2, 2, 5, 1};
        int[] lost = {0, 0, 4, 0, 12, 0};
        for (int i = 0; i < texts.length; i++) {
            SpreadParity x = new SpreadParity();
            Check.type(x, texts[i]);
            Check.same("run() of " + texts[i], x.run(), due[i]);
            Check.same("lost() after " + texts[i], x.lost(), lost[i]);
            Check.same("clearText() after " + texts[i], x.clearText(), 0);
            Check.same("savedStates() after " + texts[i], x.savedStates(), 1);
            Check.same("no scrub after " + texts[i], x.reads(6), 0);
            long digest = new SpreadParity().digest();
            Check.same("undo() after " + texts[i], x.undo(), 0);
            Check.same("digest() after undo()", x.digest(), digest);
        }
    }

    private static void runningIsOneCall() {
        SpreadParity x = new SpreadParity();
        Check.type(x, "f0;f1;f2;f3;f4;f5;f6");
        Check.undoable(x, "run()", x::run);
        Check.same("clearText() after undo() of run()", x.clearText(), 0);
        Check.type(x, "s9");
        Check.same("run() of s9 without a disc to mend", x.run(), 1);
        Check.type(x, "c;w3=9");
        Check.same("run()", x.run(), 2);
        Check.same("savedStates()", x.savedStates(), 2);
        Check.same("undo()", x.undo(), 1);
        Check.same("peek(3)", x.peek(3), 0);
    }

    private static void runningRefused() {
        String[] texts = {"", "w", "w1", "w1=", "f", "m", "s", "c;", "c;w1=1;", "x", "c;s0", "cx", "f0;f7"};
        for (String text : texts) {
            SpreadParity x = new SpreadParity();
            Check.type(x, text);
            Check.noArgument(x, "run() of " + text, x::run);
            Check.same("clearText() after run() of " + text, x.clearText(), text.length());
        }
    }

    private static void eachOrder() {
        for (int address = 0; address < 42; address++) {
            SpreadParity x = new SpreadParity();
            Check.type(x, "w" + address + "=" + (65535 - address));
            Check.same("run() of a write", x.run(), 1);
            Check.same("peek(" + address + ")", x.peek(address), 65535 - address);
        }
        for (int disc = 0; disc < 7; disc++) {
            for (int steps = 1; steps < 10; steps++) {
                SpreadParity x = new SpreadParity();
                Check.type(x, "f" + disc + ";m" + disc + ";s" + steps);
                Check.same("run() of a mending", x.run(), 3);
                Check.same("state(" + disc + ")", x.state(disc), steps);
            }
        }
        SpreadParity y = new SpreadParity();
        y.corrupt(2, 2, 2);
        Check.type(y, "c");
        Check.same("run() of a scrub", y.run(), 1);
        Check.same("wrong()", y.wrong(), 0);
    }
}
