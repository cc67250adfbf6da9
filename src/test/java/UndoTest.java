/** Promises 30 to 32: undo, the saved states, and the hash. */
final class UndoTest {
    private UndoTest() {
    }

    public static void main(String[] args) {
        nothingSaved();
        oneByOne();
        oldestDiscarded();
        queriesSaveNothing();
        bufferStays();
        undoThenOther();
        digests();
        Check.end("UndoTest");
    }

    private static void nothingSaved() {
        SpreadParity x = new SpreadParity();
        Check.noState(x, "undo() of a new array", x::undo);
        x.read(0);
        Check.same("undo()", x.undo(), 0);
        Check.noState(x, "undo() of the last one", x::undo);
        Check.same("reads(1)", x.reads(1), 0);
    }

    private static void oneByOne() {
        SpreadParity x = new SpreadParity();
        long[] digests = new long[7];
        for (int i = 0; i < 6; i++) {
            digests[i] = x.digest();
            change(x, i);
            Check.same("savedStates()", x.savedStates(), i + 1);
        }
        for (int i = 5; i >= 0; i--) {
            Check.same("undo()", x.undo(), i);
            Check.same("savedStates()", x.savedStates(), i);
            Check.same("digest()", x.digest(), digests[i]);
        }
    }

    private static void change(SpreadParity x, int i) {
        switch (i % 6) {
            case 0:
                x.write(3 * i % 42, 17 * i + 1);
                break;
            case 1:
                x.corrupt(i % 7, 5, 99);
                break;
            case 2:
                x.scrub();
                break;
            case 3:
                x.addSpare();
                break;
            case 4:
                x.fail(2);
                break;
            default:
                x.beginMending(2);
                break;
        }
    }

    private static void oldestDiscarded() {
        SpreadParity x = new SpreadParity();
        long[] digests = new long[20];
        for (int i = 0; i < 20; i++) {
            digests[i] = x.digest();
            x.write(i, 100 + i);
            Check.same("savedStates()", x.savedStates(), Math.min(i + 1, 6));
        }
        for (int i = 19; i >= 14; i--) {
            Check.same("undo()", x.undo(), i - 14);
            Check.same("digest()", x.digest(), digests[i]);
        }
        Check.noState(x, "undo() beyond 6", x::undo);
        Check.same("peek(13)", x.peek(13), 113);
        Check.same("peek(14)", x.peek(14), 0);
    }

    private static void queriesSaveNothing() {
        SpreadParity x = new SpreadParity();
        x.state(0);
        x.member(0, 0);
        x.stripeAt(0, 0);
        x.place(0, 0);
        x.unit(0, 0);
        x.peek(0);
        x.lost();
        x.wrong();
        x.spares();
        x.losses();
        x.reads(0);
        x.writes(0);
        x.balance();
        x.lostIfFailed(0);
        x.loadOf(0, 1);
        x.worst();
        x.append('c');
        x.firstError();
        x.clearText();
        x.savedStates();
        x.digest();
        Check.same("savedStates()", x.savedStates(), 0);
        Check.same("digest()", x.digest(), new SpreadParity().digest());
    }

    private static void bufferStays() {
        SpreadParity x = new SpreadParity();
        x.append('c');
        x.write(0, 1);
        x.append(';');
        Check.same("undo()", x.undo(), 0);
        Check.same("clearText()", x.clearText(), 2);
        x.append('c');
        x.run();
        x.append('f');
        Check.same("undo()", x.undo(), 0);
        Check.same("clearText()", x.clearText(), 1);
    }

    private static void undoThenOther() {
        SpreadParity x = new SpreadParity();
        x.write(0, 1);
        x.write(0, 2);
        x.write(0, 3);
        x.undo();
        x.undo();
        Check.same("peek(0)", x.peek(0), 1);
        x.write(0, 4);
        Check.same("savedStates()", x.savedStates(), 2);
        x.undo();
        Check.same("peek(0)", x.peek(0), 1);
        x.undo();
        Check.same("peek(0)", x.peek(0), 0);
    }

    private static void digests() {
        SpreadParity x = new SpreadParity();
        Check.same("digest() of a new array", x.digest(), Check.digestDue(x));
        x.write(5, 65535);
        x.read(7);
        x.corrupt(4, 4, 44);
        Check.same("digest()", x.digest(), Check.digestDue(x));
        SpreadParity y = new SpreadParity();
        y.write(5, 65535);
        y.fail(2);
        y.fail(4);
        Check.same("digest() with failed discs", y.digest(), Check.digestDue(y));
        y.beginMending(4);
        y.mend(3);
        Check.same("digest() while a disc is being mended", y.digest(), Check.digestDue(y));
        SpreadParity z = new SpreadParity();
        z.append('x');
        Check.same("digest() leaves the buffer out", z.digest(), new SpreadParity().digest());
        z.mend(1);
        Check.same("digest() leaves the saved states out", z.digest(), new SpreadParity().digest());
        for (int disc = 0; disc < 7; disc++) {
            z.fail(disc);
        }
        Check.same("digest() of failed discs", z.digest(), Check.digestDue(z));
    }
}
