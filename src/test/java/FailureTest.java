/** Promises 4 to 10 and 16 to 19: failures, mending, spare discs, silent faults and scrubbing. */
final class FailureTest {
    private static final int[] NO_DISCS = {-1, 7, -7, 14, Integer.MIN_VALUE, Integer.MAX_VALUE};
    private static final int[] NO_STEPS = {0, 10, -1, Integer.MIN_VALUE, Integer.MAX_VALUE};

    private FailureTest() {
    }

    public static void main(String[] args) {
        failing();
        failingAll();
        failingTwice();
        failingWhileMended();
        beginning();
        mendingOne();
        mendingInOrder();
        mendingLost();
        mendingNone();
        spareDiscs();
        silentFaults();
        silentFaultRefused();
        scrubbing();
        scrubbingWithGaps();
        wrongNumbers();
        Check.end("FailureTest");
    }

    private static void failing() {
        SpreadParity x = new SpreadParity();
        x.write(0, 5);
        Check.same("fail(1)", x.fail(1), 0);
        Check.same("state(1)", x.state(1), SpreadParity.NONE);
        Check.same("state(0)", x.state(0), 9);
        Check.same("lost()", x.lost(), 0);
        Check.same("savedStates()", x.savedStates(), 2);
        for (int place = 0; place < 9; place++) {
            Check.same("unit(1, " + place + ")", x.unit(1, place), SpreadParity.NONE);
        }
        Check.undoable(x, "fail(2)", () -> x.fail(2));
    }

    // Discs 0 and 1 share the stripes 0, 7 and 14, with one, one and two data units on them.
    private static void failingAll() {
        SpreadParity x = new SpreadParity();
        int[] due = {0, 4, 12, 18, 28, 36, 42};
        for (int disc = 0; disc < 7; disc++) {
            Check.same("fail(" + disc + ")", x.fail(disc), due[disc]);
            Check.same("lost()", x.lost(), due[disc]);
        }
        Check.same("wrong()", x.wrong(), 0);
    }

    private static void failingTwice() {
        SpreadParity x = new SpreadParity();
        x.fail(6);
        Check.noState(x, "fail(6) again", () -> x.fail(6));
        x.beginMending(6);
        Check.same("fail(6) at progress 0", x.fail(6), 0);
        Check.noState(x, "fail(6) after that", () -> x.fail(6));
    }

    private static void failingWhileMended() {
        SpreadParity x = new SpreadParity();
        x.write(0, 77);
        x.fail(1);
        x.beginMending(1);
        x.mend(5);
        Check.same("unit(1, 0)", x.unit(1, 0), 77);
        Check.same("fail(1) again", x.fail(1), 0);
        Check.same("state(1)", x.state(1), SpreadParity.NONE);
        Check.same("unit(1, 0)", x.unit(1, 0), SpreadParity.NONE);
        Check.same("spares()", x.spares(), 1);
        Check.same("peek(0)", x.peek(0), 77);
        x.fail(0);
        Check.same("beginMending(1)", x.beginMending(1), 0);
        x.mend(1);
        Check.same("the mended unit keeps no old value", x.unit(1, 0), 0);
        Check.same("losses()", x.losses(), 1);
    }

    private static void beginning() {
        SpreadParity x = new SpreadParity();
        Check.noState(x, "beginMending(2) of a sound disc", () -> x.beginMending(2));
        x.fail(2);
        Check.undoable(x, "beginMending(2)", () -> x.beginMending(2));
        Check.same("beginMending(2)", x.beginMending(2), 1);
        Check.same("state(2)", x.state(2), 0);
        Check.same("spares()", x.spares(), 1);
        Check.noState(x, "beginMending(2) again", () -> x.beginMending(2));
        x.fail(3);
        Check.same("beginMending(3)", x.beginMending(3), 0);
        SpreadParity y = new SpreadParity();
        for (int i = 0; i < 2; i++) {
            y.fail(4);
            y.beginMending(4);
            y.mend(9);
        }
        y.fail(4);
        Check.noState(y, "beginMending(4) without a spare disc", () -> y.beginMending(4));
    }

    private static void mendingOne() {
        SpreadParity x = new SpreadParity();
        for (int address = 0; address < 42; address++) {
            x.write(address, 65535 - address);
        }
        x.fail(5);
        x.beginMending(5);
        Check.same("mend(4)", x.mend(4), 4);
        Check.same("state(5)", x.state(5), 4);
        Check.same("unit(5, 4)", x.unit(5, 4), SpreadParity.NONE);
        Check.holds("unit(5, 3) is there", x.unit(5, 3) != SpreadParity.NONE);
        Check.same("mend(4)", x.mend(4), 4);
        Check.same("state(5)", x.state(5), 8);
        Check.undoable(x, "mend(1)", () -> x.mend(1));
        Check.same("mend(9) ends early", x.mend(9), 1);
        Check.same("state(5)", x.state(5), 9);
        for (int address = 0; address < 42; address++) {
            Check.same("peek(" + address + ")", x.peek(address), 65535 - address);
        }
        Check.same("wrong()", x.wrong(), 0);
        Check.same("losses()", x.losses(), 0);
        for (int disc = 0; disc < 7; disc++) {
            Check.same("reads(" + disc + ")", x.reads(disc), disc == 5 ? 12 : 15);
            Check.same("writes(" + disc + ")", x.writes(disc), disc == 5 ? 21 : 12);
        }
    }

    private static void mendingInOrder() {
        SpreadParity x = new SpreadParity();
        x.fail(4);
        x.fail(2);
        x.beginMending(4);
        Check.same("mend(3)", x.mend(3), 3);
        Check.same("state(4)", x.state(4), 3);
        x.beginMending(2);
        Check.same("mend(2)", x.mend(2), 2);
        Check.same("state(2)", x.state(2), 2);
        Check.same("state(4)", x.state(4), 3);
        Check.same("mend(8) goes over to the next disc", x.mend(8), 8);
        Check.same("state(2)", x.state(2), 9);
        Check.same("state(4)", x.state(4), 4);
        x.fail(6);
        Check.same("mend(9) leaves disc 6", x.mend(9), 5);
        Check.same("state(4)", x.state(4), 9);
        Check.same("state(6)", x.state(6), SpreadParity.NONE);
    }

    // With discs 0 and 1 gone, disc 0 cannot get back its units of the stripes 0, 7 and 14.
    private static void mendingLost() {
        SpreadParity x = new SpreadParity();
        for (int address = 0; address < 42; address++) {
            x.write(address, 100 + address);
        }
        x.fail(0);
        x.fail(1);
        x.beginMending(0);
        Check.same("mend(9)", x.mend(9), 9);
        Check.same("losses()", x.losses(), 3);
        Check.same("unit(0, 0), parity", x.unit(0, 0), 0);
        Check.same("unit(0, 3), data", x.unit(0, 3), 0);
        Check.same("peek(14)", x.peek(14), 0);
        Check.same("writes(0)", x.writes(0), 12 + 6);
        Check.same("reads(3), without those for stripes 0, 7 and 14", x.reads(3), 12);
        Check.same("lost()", x.lost(), 0);
        Check.same("peek(0), from a parity that is wrong", x.peek(0), 101);
        x.beginMending(1);
        x.mend(9);
        Check.same("losses()", x.losses(), 3);
        Check.same("wrong()", x.wrong(), 0);
        Check.undoable(x, "mend(9) without a disc to mend", () -> x.mend(9));
        x.undo();
        x.undo();
        Check.same("losses() after two undo()", x.losses(), 3);
        x.undo();
        Check.same("losses() after undo() of the mending", x.losses(), 0);
    }

    private static void mendingNone() {
        SpreadParity x = new SpreadParity();
        Check.same("mend(1)", x.mend(1), 0);
        Check.same("savedStates()", x.savedStates(), 1);
        x.fail(3);
        Check.same("mend(9) without a spare disc in place", x.mend(9), 0);
        Check.same("state(3)", x.state(3), SpreadParity.NONE);
        for (int steps : NO_STEPS) {
            Check.noArgument(x, "mend(" + steps + ")", () -> x.mend(steps));
            if (steps == -1) {
                x.beginMending(3);
            }
        }
    }

    private static void spareDiscs() {
        SpreadParity x = new SpreadParity();
        Check.undoable(x, "addSpare()", x::addSpare);
        Check.same("addSpare()", x.addSpare(), 3);
        Check.same("spares()", x.spares(), 3);
        Check.same("addSpare()", x.addSpare(), 4);
        Check.same("addSpare()", x.addSpare(), 5);
        Check.noState(x, "addSpare() beyond 5", x::addSpare);
        Check.same("spares()", x.spares(), 5);
    }

    private static void silentFaults() {
        SpreadParity x = new SpreadParity();
        Check.same("corrupt(0, 0, 65535)", x.corrupt(0, 0, 65535), 0);
        Check.same("unit(0, 0)", x.unit(0, 0), 65535);
        Check.same("wrong()", x.wrong(), 1);
        Check.same("corrupt(1, 0, 65535)", x.corrupt(1, 0, 65535), 0);
        Check.same("wrong(), as the parity is right again", x.wrong(), 0);
        Check.same("corrupt(6, 8, 1)", x.corrupt(6, 8, 1), 0);
        Check.same("corrupt(6, 8, 2)", x.corrupt(6, 8, 2), 1);
        Check.same("wrong()", x.wrong(), 1);
        for (int disc = 0; disc < 7; disc++) {
            Check.same("reads(" + disc + ")", x.reads(disc), 0);
            Check.same("writes(" + disc + ")", x.writes(disc), 0);
        }
        Check.undoable(x, "corrupt(2, 2, 2)", () -> x.corrupt(2, 2, 2));
        Check.undoable(x, "corrupt(2, 2, 0) of the same value", () -> x.corrupt(2, 2, 0));
    }

    private static void silentFaultRefused() {
        SpreadParity x = new SpreadParity();
        x.fail(3);
        Check.noState(x, "corrupt(3, 0, 1)", () -> x.corrupt(3, 0, 1));
        x.beginMending(3);
        Check.noState(x, "corrupt(3, 0, 1)", () -> x.corrupt(3, 0, 1));
        SpreadParity y = new SpreadParity();
        y.fail(3);
        y.beginMending(3);
        y.mend(2);
        Check.same("corrupt(3, 1, 1)", y.corrupt(3, 1, 1), 0);
        Check.noState(y, "corrupt(3, 2, 1)", () -> y.corrupt(3, 2, 1));
        Check.noArgument(y, "corrupt(3, 2, -1)", () -> y.corrupt(3, 2, -1));
        SpreadParity z = new SpreadParity();
        z.fail(3);
        Check.noIndex(z, "corrupt(3, 9, -1)", () -> z.corrupt(3, 9, -1));
        Check.noArgument(z, "corrupt(3, 8, 65536)", () -> z.corrupt(3, 8, 65536));
    }

    private static void scrubbing() {
        SpreadParity x = new SpreadParity();
        Check.undoable(x, "scrub()", x::scrub);
        x.write(0, 6);
        x.corrupt(1, 0, 4);
        x.corrupt(2, 8, 3);
        Check.same("wrong()", x.wrong(), 2);
        Check.same("wrong() changes nothing", x.wrong(), 2);
        Check.same("scrub()", x.scrub(), 2);
        Check.same("unit(0, 0)", x.unit(0, 0), 4);
        Check.same("unit(1, 0)", x.unit(1, 0), 4);
        Check.same("unit(2, 8), parity of stripe 20", x.unit(2, 8), 0);
        Check.same("wrong()", x.wrong(), 0);
        int[] reads = {10, 10, 9, 9, 9, 9, 9};
        int[] writes = {2, 1, 1, 0, 0, 0, 0};
        for (int disc = 0; disc < 7; disc++) {
            Check.same("reads(" + disc + ")", x.reads(disc), reads[disc]);
            Check.same("writes(" + disc + ")", x.writes(disc), writes[disc]);
        }
        Check.same("scrub() again", x.scrub(), 0);
        Check.same("undo()", x.undo(), 4);
        Check.same("undo()", x.undo(), 3);
        Check.same("wrong()", x.wrong(), 2);
    }

    private static void scrubbingWithGaps() {
        SpreadParity x = new SpreadParity();
        x.corrupt(1, 0, 4);
        x.fail(3);
        Check.same("wrong() of a stripe with a gap", x.wrong(), 0);
        Check.same("scrub()", x.scrub(), 0);
        int[] reads = {6, 6, 6, 0, 6, 6, 6};
        for (int disc = 0; disc < 7; disc++) {
            Check.same("reads(" + disc + ")", x.reads(disc), reads[disc]);
        }
        x.beginMending(3);
        x.mend(1);
        Check.same("unit(3, 0) is found from the fault", x.unit(3, 0), 4);
        Check.same("wrong()", x.wrong(), 0);
        x.corrupt(0, 0, 1);
        Check.same("wrong() while disc 3 is being mended", x.wrong(), 1);
        Check.same("scrub()", x.scrub(), 1);
        Check.same("unit(0, 0)", x.unit(0, 0), 0);
        Check.same("reads(3)", x.reads(3), 1);
    }

    private static void wrongNumbers() {
        for (int disc : NO_DISCS) {
            SpreadParity x = new SpreadParity();
            Check.noIndex(x, "fail(" + disc + ")", () -> x.fail(disc));
            Check.noIndex(x, "beginMending(" + disc + ")", () -> x.beginMending(disc));
            Check.noIndex(x, "state(" + disc + ")", () -> x.state(disc));
            SpreadParity y = new SpreadParity();
            Check.noIndex(y, "corrupt(" + disc + ", 0, 0)", () -> y.corrupt(disc, 0, 0));
            Check.noIndex(y, "corrupt(" + disc + ", 0, -1)", () -> y.corrupt(disc, 0, -1));
        }
        int[] noPlaces = {-1, 9, -9, Integer.MIN_VALUE, Integer.MAX_VALUE};
        for (int place : noPlaces) {
            SpreadParity x = new SpreadParity();
            Check.noIndex(x, "corrupt(1, " + place + ", 0)", () -> x.corrupt(1, place, 0));
        }
        int[] noValues = {-1, 65536, Integer.MIN_VALUE, Integer.MAX_VALUE};
        for (int value : noValues) {
            SpreadParity x = new SpreadParity();
            Check.noArgument(x, "corrupt(6, 8, " + value + ")", () -> x.corrupt(6, 8, value));
        }
    }
}
