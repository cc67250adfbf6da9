import java.math.BigInteger;
import java.util.ArrayList;
import java.util.List;
import java.util.function.Consumer;

/**
 * The boundary cases of undo, of the saved states and of the hash: for each sentence of the
 * document a test of its own.
 */
final class UndoEdgesTest {
    private UndoEdgesTest() {
    }

    public static void main(String[] args) {
        noStateIsSaved();
        oneStateIsSaved();
        sixStatesAreSaved();
        seventhDiscardsTheOldest();
        manyMoreCallsThanStates();
        undoAndSaveByTurns();
        undoSavesNothing();
        eachUndoableCallSavesOneState();
        savesEvenIfNothingChanges();
        queriesSaveNothing();
        bufferCallsSaveNothing();
        refusedCallsSaveNothing();
        bufferIsNoPartOfTheState();
        allPartsOfTheStateComeBack();
        hashOfANewArray();
        hashOverflows();
        hashOfLargestValues();
        hashOfNone();
        hashLeavesBufferAndSavedStatesOut();
        lastOf512Calls();
        Check.end("UndoEdgesTest");
    }

    // Promise 30: "if no state is saved"
    private static void noStateIsSaved() {
        Twin.refuses("undo() of a new array", Twin.STATE, x -> { }, SpreadParity::undo);
        Twin.refuses("undo() once all is undone", Twin.STATE, x -> {
            x.write(0, 1);
            x.undo();
        }, SpreadParity::undo);
        Twin.refuses("undo() with signs in the buffer", Twin.STATE, x -> Check.type(x, "c;f"), SpreadParity::undo);
        Check.same("savedStates() of a new array", new SpreadParity().savedStates(), 0);
    }

    private static void oneStateIsSaved() {
        SpreadParity x = new SpreadParity();
        x.write(0, 9);
        Check.same("savedStates()", x.savedStates(), 1);
        Check.same("undo()", x.undo(), 0);
        Check.same("savedStates()", x.savedStates(), 0);
        Check.same("digest()", x.digest(), new SpreadParity().digest());
    }

    // The values 1 to n are written to the address 0, one after the other.
    private static SpreadParity written(int n) {
        SpreadParity x = new SpreadParity();
        for (int i = 1; i <= n; i++) {
            x.write(0, i);
        }
        return x;
    }

    private static void undone(SpreadParity x, int last, int count) {
        for (int i = 1; i <= count; i++) {
            Check.same("undo()", x.undo(), count - i);
            Check.same("peek(0) after undo()", x.peek(0), last - i);
            Check.same("reads(1) after undo()", x.reads(1), last - i);
            Check.same("writes(0) after undo()", x.writes(0), last - i);
            Check.same("digest() after undo()", x.digest(), written(last - i).digest());
        }
        Check.noState(x, "one undo() more", x::undo);
    }

    // "At most 6 states are saved"
    private static void sixStatesAreSaved() {
        SpreadParity x = written(6);
        Check.same("savedStates()", x.savedStates(), 6);
        undone(x, 6, 6);
        Check.same("digest()", x.digest(), new SpreadParity().digest());
    }

    // "when one more is saved, the oldest one is discarded"
    private static void seventhDiscardsTheOldest() {
        SpreadParity x = written(7);
        Check.same("savedStates()", x.savedStates(), 6);
        undone(x, 7, 6);
        Check.same("peek(0)", x.peek(0), 1);
    }

    private static void manyMoreCallsThanStates() {
        int[] counts = {8, 11, 12, 13, 18, 19, 100, 400};
        for (int n : counts) {
            SpreadParity x = written(n);
            Check.same("savedStates() after " + n + " calls", x.savedStates(), 6);
            undone(x, n, 6);
        }
    }

    private static void undoAndSaveByTurns() {
        for (int first = 1; first <= 14; first++) {
            for (int back = 1; back <= Math.min(first, 6); back++) {
                for (int again = 1; again <= 8; again++) {
                    SpreadParity x = written(first);
                    for (int i = 0; i < back; i++) {
                        x.undo();
                    }
                    for (int i = 1; i <= again; i++) {
                        x.write(0, first - back + i);
                    }
                    int kept = Math.min(Math.min(first, 6) - back + again, 6);
                    Check.same("savedStates()", x.savedStates(), kept);
                    undone(x, first - back + again, kept);
                }
            }
        }
    }

    // undo() is not marked "Undoable".
    private static void undoSavesNothing() {
        SpreadParity x = written(3);
        Check.same("undo()", x.undo(), 2);
        Check.same("undo()", x.undo(), 1);
        Check.same("peek(0)", x.peek(0), 1);
        Check.same("undo()", x.undo(), 0);
        Check.same("peek(0)", x.peek(0), 0);
    }

    private static void savesOne(String what, Consumer<SpreadParity> call) {
        SpreadParity x = new SpreadParity();
        x.write(0, 3);
        x.fail(2);
        x.fail(4);
        x.beginMending(4);
        Check.type(x, "c;f6");
        long digest = x.digest();
        call.accept(x);
        Check.same("savedStates() after " + what, x.savedStates(), 5);
        Check.same("undo() after " + what, x.undo(), 4);
        Check.same("digest() after undo() of " + what, x.digest(), digest);
        Check.same("undo()", x.undo(), 3);
        Check.same("state(4)", x.state(4), SpreadParity.NONE);
    }

    // "Each method that is marked "Undoable" saves the state from before the call"
    private static void eachUndoableCallSavesOneState() {
        savesOne("read()", x -> x.read(0));
        savesOne("write()", x -> x.write(0, 1));
        savesOne("fail()", x -> x.fail(0));
        savesOne("beginMending()", x -> x.beginMending(2));
        savesOne("mend()", x -> x.mend(9));
        savesOne("addSpare()", SpreadParity::addSpare);
        savesOne("corrupt()", x -> x.corrupt(0, 0, 1));
        savesOne("scrub()", SpreadParity::scrub);
        savesOne("run()", SpreadParity::run);
    }

    // ".. even if nothing changes"
    private static void savesEvenIfNothingChanges() {
        List<Consumer<SpreadParity>> calls = List.of(x -> x.mend(1), x -> x.corrupt(0, 0, 0), x -> {
            Check.type(x, "m0");
            x.run();
        }, x -> {
            Check.type(x, "s9;s9");
            x.run();
        });
        for (Consumer<SpreadParity> call : calls) {
            SpreadParity x = new SpreadParity();
            call.accept(x);
            Check.same("digest()", x.digest(), new SpreadParity().digest());
            Check.same("savedStates()", x.savedStates(), 1);
            Check.same("undo()", x.undo(), 0);
        }
        SpreadParity y = new SpreadParity();
        for (int disc = 0; disc < 7; disc++) {
            y.fail(disc);
        }
        long digest = y.digest();
        y.undo();
        y.fail(6);
        y.undo();
        y.fail(6);
        Check.same("scrub() without a stripe", y.scrub(), 0);
        Check.same("digest()", y.digest(), digest);
        Check.same("savedStates()", y.savedStates(), 6);
        y.undo();
        Check.same("digest() after undo() of scrub()", y.digest(), digest);
        y.undo();
        Check.same("state(6)", y.state(6), 9);
    }

    private static void queriesSaveNothing() {
        Twin.changesNothing("all queries", x -> {
            x.write(0, 3);
            x.fail(1);
            Check.type(x, "f2;c");
        }, x -> {
            for (int n = 0; n < 7; n++) {
                x.state(n);
                x.member(n, n % 3);
                x.stripeAt(n, n);
                x.place(n, n % 3);
                x.unit(n, n);
                x.peek(n);
                x.reads(n);
                x.writes(n);
                x.lostIfFailed(n);
                x.loadOf(n, 6 - n);
            }
            x.lost();
            x.wrong();
            x.spares();
            x.losses();
            x.balance();
            x.worst();
            x.firstError();
            x.savedStates();
            return x.digest();
        });
    }

    private static void bufferCallsSaveNothing() {
        SpreadParity x = written(6);
        Check.type(x, "c;f1");
        x.firstError();
        x.clearText();
        Check.same("savedStates()", x.savedStates(), 6);
        undone(x, 6, 6);
    }

    // "saves .. if it does not throw an exception"
    private static void refusedCallsSaveNothing() {
        SpreadParity x = new SpreadParity();
        x.addSpare();
        x.addSpare();
        x.addSpare();
        x.fail(0);
        x.fail(1);
        x.write(4, 77);
        Check.outcome(() -> x.read(0));
        Check.outcome(() -> x.write(0, 1));
        Check.outcome(() -> x.fail(0));
        Check.outcome(() -> x.beginMending(6));
        Check.outcome(() -> x.mend(0));
        Check.outcome(x::addSpare);
        Check.outcome(() -> x.corrupt(0, 0, 1));
        Check.outcome(x::run);
        Check.same("savedStates()", x.savedStates(), 6);
        Check.same("undo()", x.undo(), 5);
        Check.same("peek(4)", x.peek(4), 0);
        for (int due = 4; due >= 0; due--) {
            Check.same("undo()", x.undo(), due);
        }
        Check.same("digest()", x.digest(), new SpreadParity().digest());
    }

    // "The state consists of everything except the buffer and the saved states."
    private static void bufferIsNoPartOfTheState() {
        SpreadParity x = new SpreadParity();
        Check.type(x, "f1");
        x.write(0, 1);
        Check.same("clearText()", x.clearText(), 2);
        Check.type(x, "f2;f3");
        x.undo();
        Check.same("firstError() after undo()", x.firstError(), 5);
        Check.same("run() after undo()", x.run(), 2);
        Check.same("state(1)", x.state(1), 9);
        Check.same("state(2)", x.state(2), SpreadParity.NONE);
        x.undo();
        Check.same("clearText(), as undo() of run() brings no signs back", x.clearText(), 0);
        Check.same("state(2)", x.state(2), 9);
    }

    private static void allPartsOfTheStateComeBack() {
        SpreadParity x = new SpreadParity();
        x.write(0, 3);
        x.fail(1);
        x.fail(3);
        x.beginMending(1);
        x.mend(2);
        Check.same("losses()", x.losses(), 1);
        long digest = x.digest();
        double balance = x.balance();
        Check.type(x, "f1;m1;s9;f0;c;w5=5;w6=6");
        Check.same("run()", x.run(), 7);
        Check.same("losses()", x.losses(), 4);
        Check.same("undo()", x.undo(), 5);
        Check.same("digest()", x.digest(), digest);
        Check.same("balance()", x.balance(), balance);
        Check.same("losses()", x.losses(), 1);
        Check.same("spares()", x.spares(), 1);
        Check.same("state(0)", x.state(0), 9);
        Check.same("state(1)", x.state(1), 2);
        Check.same("state(3)", x.state(3), SpreadParity.NONE);
        Check.same("mend(9) goes on from there", x.mend(9), 7);
    }

    private static List<Integer> listed(SpreadParity x) {
        List<Integer> list = new ArrayList<>(List.of(x.lost(), x.wrong(), x.spares(), x.losses(), x.worst()));
        for (int disc = 0; disc < 7; disc++) {
            list.addAll(List.of(x.state(disc), x.reads(disc), x.writes(disc), x.lostIfFailed(disc)));
        }
        for (int address = 0; address < 42; address++) {
            list.add(x.peek(address));
        }
        for (int disc = 0; disc < 7; disc++) {
            for (int place = 0; place < 9; place++) {
                list.add(x.unit(disc, place));
            }
        }
        return list;
    }

    // The hash without an end, of which a long keeps the last 64 bits.
    private static BigInteger endless(SpreadParity x) {
        BigInteger hash = BigInteger.valueOf(4184);
        for (int v : listed(x)) {
            hash = hash.multiply(BigInteger.valueOf(31)).add(BigInteger.valueOf(v));
        }
        return hash;
    }

    // "The hash starts at 4184": a new array has 2 spare discs and seven states of 9, all else is 0.
    private static void hashOfANewArray() {
        BigInteger hash = BigInteger.valueOf(4184);
        for (int i = 0; i < 138; i++) {
            boolean isState = i >= 5 && i < 33 && i % 4 == 1;
            hash = hash.multiply(BigInteger.valueOf(31)).add(BigInteger.valueOf(i == 2 ? 2 : isState ? 9 : 0));
        }
        Check.same("digest()", new SpreadParity().digest(), hash.longValue());
        Check.same("the number of values", listed(new SpreadParity()).size(), 138);
    }

    // "in long arithmetic with overflow"
    private static void hashOverflows() {
        boolean below = false;
        boolean above = false;
        for (int n = 0; n < 200; n++) {
            SpreadParity x = new SpreadParity();
            x.write(n % 42, 65535 - n);
            BigInteger whole = endless(x);
            Check.holds("the hash goes beyond a long", whole.bitLength() > 64);
            Check.same("digest()", x.digest(), whole.longValue());
            below |= x.digest() < 0;
            above |= x.digest() > Integer.MAX_VALUE;
        }
        Check.holds("some hashes are below 0", below);
        Check.holds("some hashes are above an int", above);
    }

    private static void hashOfLargestValues() {
        SpreadParity x = new SpreadParity();
        for (int disc = 0; disc < 7; disc++) {
            for (int place = 0; place < 9; place++) {
                x.corrupt(disc, place, 65535);
            }
        }
        Check.same("digest()", x.digest(), endless(x).longValue());
        x.scrub();
        Check.same("digest()", x.digest(), endless(x).longValue());
    }

    // "(NONE for units that are not there)"
    private static void hashOfNone() {
        SpreadParity x = new SpreadParity();
        for (int disc = 0; disc < 7; disc++) {
            x.fail(disc);
            Check.same("digest()", x.digest(), endless(x).longValue());
        }
        x.beginMending(0);
        for (int progress = 0; progress < 9; progress++) {
            Check.same("digest()", x.digest(), endless(x).longValue());
            x.mend(1);
        }
        Check.same("digest()", x.digest(), endless(x).longValue());
    }

    private static void hashLeavesBufferAndSavedStatesOut() {
        SpreadParity x = new SpreadParity();
        Check.type(x, "f1");
        x.mend(9);
        Check.same("digest()", x.digest(), new SpreadParity().digest());
    }

    // "An object is used for at most 512 calls": eight texts of 30 scrubs, and some calls more.
    private static void lastOf512Calls() {
        SpreadParity x = new SpreadParity();
        int calls = 0;
        for (int i = 1; i <= 8; i++) {
            for (int sign = 0; sign < 59; sign++) {
                x.append(sign % 2 == 0 ? 'c' : ';');
            }
            Check.same("run()", x.run(), 30);
            calls += 60;
            Check.same("reads(0)", x.reads(0), 270 * i);
            calls++;
        }
        while (calls < 511) {
            x.write(calls % 42, calls);
            calls++;
        }
        Check.same("the call 512", x.undo(), 5);
    }
}
