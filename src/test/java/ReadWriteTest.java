/** Promises 2, 3, 14, 15 and 20 to 22: reading and writing, and the counts of it. */
final class ReadWriteTest {
    private static final int[] NO_NUMBERS = {-1, 42, -42, 84, Integer.MIN_VALUE, Integer.MAX_VALUE};
    private static final int[] NO_DISCS = {-1, 7, -7, 14, Integer.MIN_VALUE, Integer.MAX_VALUE};
    private static final int[] NO_VALUES = {-1, 65536, Integer.MIN_VALUE, Integer.MAX_VALUE};

    private ReadWriteTest() {
    }

    public static void main(String[] args) {
        whole();
        allAddresses();
        withoutData();
        withoutEachData();
        withoutParity();
        withoutOther();
        lostUnits();
        whileMending();
        afterSilentFault();
        counts();
        wrongNumbers();
        orderOfExceptions();
        Check.end("ReadWriteTest");
    }

    private static void counted(SpreadParity x, String reads, String writes) {
        StringBuilder r = new StringBuilder();
        StringBuilder w = new StringBuilder();
        for (int disc = 0; disc < 7; disc++) {
            r.append(disc == 0 ? "" : " ").append(x.reads(disc));
            w.append(disc == 0 ? "" : " ").append(x.writes(disc));
        }
        Check.same("reads of the discs", r.toString(), reads);
        Check.same("writes of the discs", w.toString(), writes);
    }

    // Stripe 0: parity on disc 0, data on discs 1 and 3, all at place 0.
    private static void whole() {
        SpreadParity x = new SpreadParity();
        Check.same("write(0, 65535)", x.write(0, 65535), 4);
        Check.same("write(1, 3)", x.write(1, 3), 4);
        Check.same("unit(1, 0)", x.unit(1, 0), 65535);
        Check.same("unit(3, 0)", x.unit(3, 0), 3);
        Check.same("unit(0, 0)", x.unit(0, 0), 65532);
        counted(x, "2 1 0 1 0 0 0", "2 1 0 1 0 0 0");
        Check.same("write(0, 0)", x.write(0, 0), 4);
        Check.same("unit(0, 0)", x.unit(0, 0), 3);
        Check.same("read(1)", x.read(1), 3);
        counted(x, "3 2 0 2 0 0 0", "3 2 0 1 0 0 0");
        Check.same("peek(1)", x.peek(1), 3);
        counted(x, "3 2 0 2 0 0 0", "3 2 0 1 0 0 0");
        Check.undoable(x, "read(41)", () -> x.read(41));
        Check.undoable(x, "write(41, 9)", () -> x.write(41, 9));
        Check.undoable(x, "write(1, 3) of the same value", () -> x.write(1, 3));
    }

    private static void allAddresses() {
        SpreadParity x = new SpreadParity();
        for (int address = 0; address < 42; address++) {
            Check.same("write(" + address + ", ..)", x.write(address, 1000 + 7 * address), 4);
        }
        for (int address = 0; address < 42; address++) {
            Check.same("peek(" + address + ")", x.peek(address), 1000 + 7 * address);
            Check.same("read(" + address + ")", x.read(address), 1000 + 7 * address);
            int place = x.place(address / 2, address % 2);
            Check.same("its unit", x.unit(place / 10, place % 10), 1000 + 7 * address);
        }
        Check.same("wrong()", x.wrong(), 0);
        counted(x, "18 18 18 18 18 18 18", "12 12 12 12 12 12 12");
        Check.same("balance()", x.balance(), 1.0);
    }

    private static void withoutData() {
        SpreadParity x = new SpreadParity();
        x.write(0, 100);
        x.write(1, 60);
        x.fail(1);
        Check.same("unit that is not there", x.unit(1, 0), SpreadParity.NONE);
        Check.same("peek(0)", x.peek(0), 100);
        counted(x, "2 1 0 1 0 0 0", "2 1 0 1 0 0 0");
        Check.same("read(0)", x.read(0), 100);
        counted(x, "3 1 0 2 0 0 0", "2 1 0 1 0 0 0");
        Check.same("write(0, 7)", x.write(0, 7), 2);
        counted(x, "3 1 0 3 0 0 0", "3 1 0 1 0 0 0");
        Check.same("unit(0, 0)", x.unit(0, 0), 7 ^ 60);
        Check.same("unit(1, 0)", x.unit(1, 0), SpreadParity.NONE);
        Check.same("peek(0)", x.peek(0), 7);
        Check.same("peek(1)", x.peek(1), 60);
    }

    private static void withoutEachData() {
        for (int address = 0; address < 42; address++) {
            SpreadParity x = new SpreadParity();
            int other = address % 2 == 0 ? address + 1 : address - 1;
            int parity = x.place(address / 2, 2);
            x.write(address, 9000);
            x.write(other, 21);
            x.fail(x.place(address / 2, address % 2) / 10);
            Check.same("read(" + address + ")", x.read(address), 9000);
            Check.same("write(" + address + ", 17)", x.write(address, 17), 2);
            Check.same("peek(" + address + ")", x.peek(address), 17);
            Check.same("peek(" + other + ")", x.peek(other), 21);
            Check.same("its parity", x.unit(parity / 10, parity % 10), 17 ^ 21);
            Check.same("reads of the parity's disc", x.reads(parity / 10), 3);
            Check.same("writes of the parity's disc", x.writes(parity / 10), 3);
            Check.same("reads of the other's disc", x.reads(x.place(other / 2, other % 2) / 10), 3);
            Check.same("writes of the other's disc", x.writes(x.place(other / 2, other % 2) / 10), 1);
        }
    }

    private static void withoutParity() {
        SpreadParity x = new SpreadParity();
        x.write(0, 100);
        x.write(1, 60);
        x.fail(0);
        Check.same("write(0, 7)", x.write(0, 7), 1);
        counted(x, "2 1 0 1 0 0 0", "2 2 0 1 0 0 0");
        Check.same("read(0)", x.read(0), 7);
        Check.same("unit(0, 0)", x.unit(0, 0), SpreadParity.NONE);
        x.fail(3);
        Check.same("write(0, 8) alone", x.write(0, 8), 1);
        Check.same("peek(0)", x.peek(0), 8);
        Check.same("peek(1)", x.peek(1), SpreadParity.NONE);
    }

    private static void withoutOther() {
        SpreadParity x = new SpreadParity();
        x.write(0, 100);
        x.write(1, 60);
        x.fail(3);
        Check.same("write(0, 7)", x.write(0, 7), 4);
        Check.same("peek(1)", x.peek(1), 60);
        Check.same("unit(0, 0)", x.unit(0, 0), 7 ^ 60);
        counted(x, "3 2 0 1 0 0 0", "3 2 0 1 0 0 0");
    }

    private static void lostUnits() {
        SpreadParity x = new SpreadParity();
        x.write(0, 100);
        x.fail(1);
        x.fail(0);
        Check.same("peek(0)", x.peek(0), SpreadParity.NONE);
        Check.noState(x, "read(0)", () -> x.read(0));
        Check.noState(x, "write(0, 5)", () -> x.write(0, 5));
        SpreadParity y = new SpreadParity();
        y.fail(1);
        y.fail(3);
        Check.noState(y, "read(1)", () -> y.read(1));
        Check.noState(y, "write(0, 5) with the parity alone", () -> y.write(0, 5));
        Check.noState(y, "write(1, 5) with the parity alone", () -> y.write(1, 5));
    }

    private static void whileMending() {
        SpreadParity x = new SpreadParity();
        x.write(0, 100);
        x.write(2, 200);
        x.fail(1);
        x.beginMending(1);
        x.mend(1);
        Check.same("unit(1, 0)", x.unit(1, 0), 100);
        Check.same("unit(1, 1)", x.unit(1, 1), SpreadParity.NONE);
        Check.same("write to the mended unit", x.write(0, 101), 4);
        Check.same("peek(0)", x.peek(0), 101);
        Check.same("stripe 1 has its parity on disc 1", x.place(1, 2), 11);
        Check.same("write without the parity", x.write(2, 201), 1);
        x.mend(1);
        Check.same("unit(1, 1)", x.unit(1, 1), 201);
        Check.same("wrong()", x.wrong(), 0);
    }

    // A write goes on from the old values as they stand, so a silent fault stays in the parity.
    private static void afterSilentFault() {
        SpreadParity x = new SpreadParity();
        x.corrupt(1, 0, 5);
        Check.same("read(0)", x.read(0), 5);
        Check.same("write(0, 9)", x.write(0, 9), 4);
        Check.same("unit(0, 0)", x.unit(0, 0), 12);
        Check.same("wrong()", x.wrong(), 1);
        x.fail(3);
        Check.same("peek(1)", x.peek(1), 9 ^ 12);
        Check.same("read(1)", x.read(1), 9 ^ 12);
    }

    private static void counts() {
        SpreadParity x = new SpreadParity();
        x.read(0);
        Check.same("balance() with a disc unread", x.balance(), 0.0);
        x.scrub();
        Check.same("balance() after scrub()", x.balance(), 9.0 / 10.0);
        x.read(0);
        Check.same("balance() after read(0)", x.balance(), 9.0 / 11.0);
        for (int stripe = 0; stripe < 7; stripe++) {
            SpreadParity one = new SpreadParity();
            one.scrub();
            one.read(2 * stripe);
            Check.same("balance() with one disc above the others", one.balance(), 9.0 / 10.0);
        }
        for (int disc = 0; disc < 7; disc++) {
            SpreadParity one = new SpreadParity();
            one.scrub();
            one.fail(disc);
            one.beginMending(disc);
            one.mend(9);
            Check.same("balance() with one disc below the others", one.balance(), 9.0 / 12.0);
        }
        SpreadParity y = new SpreadParity();
        y.fail(1);
        y.write(1, 1);
        Check.same("balance() where only disc 1 is unread", y.balance(), 0.0);
        SpreadParity z = new SpreadParity();
        z.fail(0);
        z.write(0, 3);
        Check.same("balance() with writes alone", z.balance(), 1.0);
        Check.same("writes(1)", z.writes(1), 1);
    }

    private static void wrongNumbers() {
        SpreadParity[] made = new SpreadParity[1];
        for (int n : NO_NUMBERS) {
            SpreadParity x = new SpreadParity();
            Check.noIndex(x, "read(" + n + ")", () -> x.read(n));
            Check.noIndex(x, "peek(" + n + ")", () -> x.peek(n));
            Check.noIndex(x, "write(" + n + ", 0)", () -> x.write(n, 0));
            made[0] = x;
        }
        for (int n : NO_VALUES) {
            Check.noArgument(made[0], "write(0, " + n + ")", () -> new SpreadParity().write(0, n));
            SpreadParity x = new SpreadParity();
            Check.noArgument(x, "write(41, " + n + ")", () -> x.write(41, n));
        }
        for (int n : NO_DISCS) {
            SpreadParity x = new SpreadParity();
            Check.noIndex(x, "reads(" + n + ")", () -> x.reads(n));
            Check.noIndex(x, "writes(" + n + ")", () -> x.writes(n));
        }
    }

    private static void orderOfExceptions() {
        SpreadParity x = new SpreadParity();
        Check.noIndex(x, "write(42, -1)", () -> x.write(42, -1));
        x.fail(0);
        x.fail(1);
        Check.noArgument(x, "write(0, 65536) where it is not possible", () -> x.write(0, 65536));
        SpreadParity y = new SpreadParity();
        for (int disc = 0; disc < 7; disc++) {
            y.fail(disc);
        }
        Check.noIndex(y, "write(-1, 65536) where nothing is possible", () -> y.write(-1, 65536));
        Check.noIndex(y, "read(42) where all is lost", () -> y.read(42));
    }
}
