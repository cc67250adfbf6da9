/**
 * The boundary cases of reading and writing, of silent faults and scrubbing, of the counts and of
 * the forecasts: for each sentence of the document a test of its own.
 */
final class AccessEdgesTest {
    private static final int NONE = SpreadParity.NONE;

    private AccessEdgesTest() {
    }

    public static void main(String[] args) {
        readOfAUnitThatIsThere();
        readOfAUnitThatCanBeFound();
        readOfALostUnit();
        readAtTheProgress();
        writeWithDataAndParity();
        writeWithoutParity();
        writeWithDataAlone();
        writeWithoutData();
        writeWithoutDataAtBothEnds();
        writeWithoutDataAndOther();
        writeWithoutDataAndParity();
        writeWithNothing();
        writeAtTheProgressOfTheData();
        writeAtTheProgressOfTheParity();
        parityOfLargestValues();
        faultOfAUnitThatIsNotThere();
        faultAtTheProgress();
        faultOfTheSameValue();
        scrubOfRightStripes();
        scrubOf21WrongStripes();
        scrubLooksAtWholeStripesAlone();
        scrubWhileMending();
        scrubWithoutAnyStripe();
        peekOfALostUnit();
        lostFrom0To42();
        wrongFrom0To21();
        balanceOfNothing();
        balanceWithAnUnreadDisc();
        balanceOfEqualReads();
        forecastOfAFailedDisc();
        forecastOfADiscBeingMended();
        forecastWithAllFailed();
        loadOnItself();
        loadIsNotOfNow();
        worstOfEqualDiscs();
        worstIsSound();
        worstOfOneSoundDisc();
        worstOfNone();
        Check.end("AccessEdgesTest");
    }

    private static SpreadParity failed(int... discs) {
        SpreadParity x = new SpreadParity();
        x.write(0, 1000);
        x.write(1, 77);
        for (int disc : discs) {
            x.fail(disc);
        }
        return x;
    }

    // The reads and writes of the three discs of stripe 0 since the two writes of failed().
    private static void counted(SpreadParity x, int parity, int data0, int data1, int parityWrites, int data0Writes,
            int data1Writes) {
        Check.same("reads(0), the parity's", x.reads(0) - 2, parity);
        Check.same("reads(1), of the data unit 0", x.reads(1) - 1, data0);
        Check.same("reads(3), of the data unit 1", x.reads(3) - 1, data1);
        Check.same("writes(0)", x.writes(0) - 2, parityWrites);
        Check.same("writes(1)", x.writes(1) - 1, data0Writes);
        Check.same("writes(3)", x.writes(3) - 1, data1Writes);
        int[] others = {2, 4, 5, 6};
        for (int disc : others) {
            Check.same("reads(" + disc + ")", x.reads(disc), 0);
            Check.same("writes(" + disc + ")", x.writes(disc), 0);
        }
    }

    // "if its unit is there, it is read"
    private static void readOfAUnitThatIsThere() {
        SpreadParity x = failed();
        Check.same("read(0)", x.read(0), 1000);
        counted(x, 0, 1, 0, 0, 0, 0);
        SpreadParity y = failed(0, 3);
        Check.same("read(0) of the only unit", y.read(0), 1000);
        counted(y, 0, 1, 0, 0, 0, 0);
    }

    // "Otherwise, if its value can be found, both other units of its stripe are read."
    private static void readOfAUnitThatCanBeFound() {
        SpreadParity x = failed(1);
        Check.same("read(0)", x.read(0), 1000);
        counted(x, 1, 0, 1, 0, 0, 0);
        SpreadParity y = failed(3);
        Check.same("read(1)", y.read(1), 77);
        counted(y, 1, 1, 0, 0, 0, 0);
    }

    // Promise 2: "if its unit is lost"
    private static void readOfALostUnit() {
        int[][] missing = {{1, 0}, {1, 3}, {1, 0, 3}};
        for (int[] discs : missing) {
            Twin.refuses("read(0) of a lost unit", Twin.STATE, x -> {
                x.write(0, 1000);
                for (int disc : discs) {
                    x.fail(disc);
                }
            }, x -> x.read(0));
        }
    }

    // "if its disc is being mended and the place of the unit is less than the progress": the
    // address 0 has the place 0 of disc 1, the address 11 the place 2.
    private static void readAtTheProgress() {
        SpreadParity x = failed(1);
        x.beginMending(1);
        x.read(0);
        counted(x, 1, 0, 1, 0, 0, 0);
        SpreadParity y = failed(1);
        y.beginMending(1);
        y.mend(1);
        int reads = y.reads(1);
        Check.same("read(0)", y.read(0), 1000);
        Check.same("reads(1)", y.reads(1), reads + 1);
        y.mend(1);
        Check.same("address 11 is on disc 1", y.place(5, 1), 12);
        y.read(11);
        Check.same("reads(1), as the place 2 is not less than 2", y.reads(1), reads + 1);
        y.mend(1);
        y.read(11);
        Check.same("reads(1), as the place 2 is less than 3", y.reads(1), reads + 2);
    }

    // "If d and p are there: d and p are read, and then both are written"
    private static void writeWithDataAndParity() {
        SpreadParity x = failed();
        Check.same("write(0, 5)", x.write(0, 5), 4);
        counted(x, 1, 1, 0, 1, 1, 0);
        Check.same("unit(0, 0)", x.unit(0, 0), 5 ^ 77);
        SpreadParity y = failed(3);
        Check.same("write(0, 5) without the other data unit", y.write(0, 5), 4);
        counted(y, 1, 1, 0, 1, 1, 0);
        Check.same("peek(1)", y.peek(1), 77);
    }

    // "If d is there, and p is not: d is written."
    private static void writeWithoutParity() {
        SpreadParity x = failed(0);
        Check.same("write(1, 5)", x.write(1, 5), 1);
        counted(x, 0, 0, 0, 0, 0, 1);
        Check.same("peek(1)", x.peek(1), 5);
        Check.same("peek(0)", x.peek(0), 1000);
    }

    private static void writeWithDataAlone() {
        SpreadParity x = failed(0, 1);
        Check.same("write(1, 5)", x.write(1, 5), 1);
        counted(x, 0, 0, 0, 0, 0, 1);
        Check.same("peek(1)", x.peek(1), 5);
        Check.same("peek(0)", x.peek(0), NONE);
    }

    // "If d is not there, and e and p are there: e is read, and p is written"
    private static void writeWithoutData() {
        SpreadParity x = failed(1);
        Check.same("write(0, 65535)", x.write(0, 65535), 2);
        counted(x, 0, 0, 1, 1, 0, 0);
        Check.same("unit(0, 0)", x.unit(0, 0), 65535 ^ 77);
        Check.same("unit(1, 0)", x.unit(1, 0), NONE);
        Check.same("peek(0)", x.peek(0), 65535);
        Check.same("peek(1)", x.peek(1), 77);
    }

    // The first and the last two addresses, whose other data units are on either side.
    private static void writeWithoutDataAtBothEnds() {
        int[] addresses = {0, 1, 40, 41};
        int[] others = {1, 0, 41, 40};
        for (int i = 0; i < 4; i++) {
            SpreadParity x = new SpreadParity();
            x.write(addresses[i], 600);
            x.write(others[i], 50);
            int stripe = addresses[i] / 2;
            int other = x.place(stripe, others[i] % 2) / 10;
            int parity = x.place(stripe, 2);
            x.fail(x.place(stripe, addresses[i] % 2) / 10);
            Check.same("write(" + addresses[i] + ", 65535)", x.write(addresses[i], 65535), 2);
            Check.same("its parity", x.unit(parity / 10, parity % 10), 65535 ^ 50);
            Check.same("peek(" + addresses[i] + ")", x.peek(addresses[i]), 65535);
            Check.same("peek(" + others[i] + ")", x.peek(others[i]), 50);
            Check.same("reads of the other's disc", x.reads(other), 2);
            Check.same("reads of the parity's disc", x.reads(parity / 10), 2);
            Check.same("writes of the other's disc", x.writes(other), 1);
            Check.same("writes of the parity's disc", x.writes(parity / 10), 3);
        }
    }

    // "Otherwise the write is not possible."
    private static void writeWithoutDataAndOther() {
        Twin.refuses("write(0, 1) with the parity alone", Twin.STATE, x -> {
            x.write(0, 9);
            x.fail(1);
            x.fail(3);
        }, x -> x.write(0, 1));
    }

    private static void writeWithoutDataAndParity() {
        Twin.refuses("write(0, 1) with the other data unit alone", Twin.STATE, x -> {
            x.write(0, 9);
            x.fail(1);
            x.fail(0);
        }, x -> x.write(0, 1));
    }

    private static void writeWithNothing() {
        Twin.refuses("write(0, 1) without a unit of the stripe", Twin.STATE, x -> {
            x.fail(0);
            x.fail(1);
            x.fail(3);
        }, x -> x.write(0, 1));
    }

    private static void writeAtTheProgressOfTheData() {
        SpreadParity x = failed(1);
        x.beginMending(1);
        Check.same("write(0, 5) at progress 0", x.write(0, 5), 2);
        Check.same("unit(1, 0)", x.unit(1, 0), NONE);
        x.mend(1);
        Check.same("unit(1, 0)", x.unit(1, 0), 5);
        Check.same("write(0, 6) at progress 1", x.write(0, 6), 4);
        Check.same("unit(1, 0)", x.unit(1, 0), 6);
        Check.same("wrong()", x.wrong(), 0);
    }

    private static void writeAtTheProgressOfTheParity() {
        SpreadParity x = failed(0);
        x.beginMending(0);
        Check.same("write(0, 5) at progress 0", x.write(0, 5), 1);
        x.mend(1);
        Check.same("unit(0, 0)", x.unit(0, 0), 5 ^ 77);
        Check.same("write(0, 6) at progress 1", x.write(0, 6), 4);
        Check.same("unit(0, 0)", x.unit(0, 0), 6 ^ 77);
    }

    // "p with p xor (the old value of d) xor (the new value)", at both ends of the values.
    private static void parityOfLargestValues() {
        SpreadParity x = new SpreadParity();
        x.write(0, 65535);
        Check.same("unit(0, 0)", x.unit(0, 0), 65535);
        x.write(1, 65535);
        Check.same("unit(0, 0)", x.unit(0, 0), 0);
        x.write(0, 0);
        Check.same("unit(0, 0)", x.unit(0, 0), 65535);
        x.write(1, 0);
        Check.same("unit(0, 0)", x.unit(0, 0), 0);
    }

    // Promise 8: "if the unit is not there"
    private static void faultOfAUnitThatIsNotThere() {
        int[] places = {0, 8};
        for (int place : places) {
            Twin.refuses("corrupt(3, " + place + ", 1) of a failed disc", Twin.STATE, x -> x.fail(3),
                    x -> x.corrupt(3, place, 1));
            Twin.refuses("corrupt(3, " + place + ", 1) at progress 0", Twin.STATE, x -> {
                x.fail(3);
                x.beginMending(3);
            }, x -> x.corrupt(3, place, 1));
        }
    }

    private static void faultAtTheProgress() {
        for (int steps = 1; steps < 9; steps++) {
            int progress = steps;
            SpreadParity x = failed(3);
            x.beginMending(3);
            x.mend(progress);
            Check.same("corrupt() below the progress", x.corrupt(3, progress - 1, 9), progress == 1 ? 77 : 0);
            Check.same("unit() below the progress", x.unit(3, progress - 1), 9);
            Twin.refuses("corrupt() at the progress " + progress, Twin.STATE, y -> {
                y.fail(3);
                y.beginMending(3);
                y.mend(progress);
            }, y -> y.corrupt(3, progress, 9));
        }
    }

    private static void faultOfTheSameValue() {
        SpreadParity x = failed();
        Check.same("corrupt(1, 0, 1000)", x.corrupt(1, 0, 1000), 1000);
        Check.same("unit(1, 0)", x.unit(1, 0), 1000);
        Check.same("wrong()", x.wrong(), 0);
        counted(x, 0, 0, 0, 0, 0, 0);
    }

    // "these three units are read. A stripe is wrong if its parity is not right"
    private static void scrubOfRightStripes() {
        SpreadParity x = new SpreadParity();
        Check.same("scrub()", x.scrub(), 0);
        for (int disc = 0; disc < 7; disc++) {
            Check.same("reads(" + disc + ")", x.reads(disc), 9);
            Check.same("writes(" + disc + ")", x.writes(disc), 0);
        }
    }

    // "then its parity is written so that it is right": the parity alone, three on each disc.
    private static void scrubOf21WrongStripes() {
        SpreadParity x = new SpreadParity();
        for (int stripe = 0; stripe < 21; stripe++) {
            int spot = x.place(stripe, stripe % 3);
            x.corrupt(spot / 10, spot % 10, 65535);
        }
        Check.same("wrong()", x.wrong(), 21);
        Check.same("scrub()", x.scrub(), 21);
        for (int stripe = 0; stripe < 21; stripe++) {
            int parity = x.place(stripe, 2);
            int due = stripe % 3 == 2 ? 0 : 65535;
            Check.same("the parity of stripe " + stripe, x.unit(parity / 10, parity % 10), due);
            Check.same("peek(" + 2 * stripe + ")", x.peek(2 * stripe), stripe % 3 == 0 ? 65535 : 0);
            Check.same("peek(" + (2 * stripe + 1) + ")", x.peek(2 * stripe + 1), stripe % 3 == 1 ? 65535 : 0);
        }
        for (int disc = 0; disc < 7; disc++) {
            Check.same("reads(" + disc + ")", x.reads(disc), 9);
            Check.same("writes(" + disc + ")", x.writes(disc), 3);
        }
        Check.same("scrub() again", x.scrub(), 0);
    }

    // "all stripes of which all three units are there are looked at"
    private static void scrubLooksAtWholeStripesAlone() {
        for (int missing = 0; missing < 3; missing++) {
            for (int faulty = 0; faulty < 3; faulty++) {
                if (faulty != missing) {
                    SpreadParity x = new SpreadParity();
                    int spot = x.place(0, faulty);
                    x.corrupt(spot / 10, spot % 10, 4);
                    x.fail(x.place(0, missing) / 10);
                    Check.same("wrong() of a stripe with a gap", x.wrong(), 0);
                    Check.same("scrub()", x.scrub(), 0);
                    Check.same("reads()", x.reads(spot / 10), 6);
                    Check.same("the unit stays", x.unit(spot / 10, spot % 10), 4);
                }
            }
        }
    }

    // A disc at the progress p has p stripes that are looked at.
    private static void scrubWhileMending() {
        for (int progress = 0; progress < 9; progress++) {
            SpreadParity x = new SpreadParity();
            x.corrupt(0, 0, 1);
            x.corrupt(0, 8, 2);
            x.fail(1);
            x.beginMending(1);
            if (progress > 0) {
                x.mend(progress);
            }
            int before = x.reads(1);
            Check.same("wrong(), of the stripe 20 alone", x.wrong(), 1);
            Check.same("scrub()", x.scrub(), 1);
            Check.same("reads(1) at progress " + progress, x.reads(1) - before, progress);
        }
        SpreadParity y = new SpreadParity();
        y.fail(1);
        y.beginMending(1);
        y.corrupt(0, 0, 1);
        y.mend(1);
        y.corrupt(0, 0, 3);
        Check.same("wrong() as the stripe 0 is whole again", y.wrong(), 1);
        Check.same("scrub()", y.scrub(), 1);
        Check.same("unit(0, 0)", y.unit(0, 0), 1);
    }

    // Each two stripes share a disc: without the discs of stripe 0 no stripe is whole.
    private static void scrubWithoutAnyStripe() {
        SpreadParity x = new SpreadParity();
        for (int disc = 0; disc < 7; disc++) {
            x.corrupt(disc, 4, 5);
        }
        x.fail(0);
        x.fail(1);
        x.fail(3);
        Check.same("wrong()", x.wrong(), 0);
        Check.same("scrub()", x.scrub(), 0);
        for (int disc = 0; disc < 7; disc++) {
            Check.same("reads(" + disc + ")", x.reads(disc), 0);
            Check.same("writes(" + disc + ")", x.writes(disc), 0);
        }
        Check.same("unit(2, 4) keeps its fault", x.unit(2, 4), 5);
        SpreadParity y = new SpreadParity();
        for (int disc = 0; disc < 7; disc++) {
            y.fail(disc);
        }
        Check.same("wrong()", y.wrong(), 0);
        Check.same("scrub()", y.scrub(), 0);
        Check.same("balance() as nothing was read", y.balance(), 1.0);
    }

    // Promise 15: "NONE if its unit is lost"
    private static void peekOfALostUnit() {
        SpreadParity x = failed(1);
        Check.same("peek(0) that can be found", x.peek(0), 1000);
        counted(x, 0, 0, 0, 0, 0, 0);
        Check.same("peek(0) without the parity", failed(1, 0).peek(0), NONE);
        Check.same("peek(0) without the other", failed(1, 3).peek(0), NONE);
        Check.same("peek(0) of the only unit", failed(0, 3).peek(0), 1000);
    }

    // Promise 16. The three stripes of two failed discs lose 4 addresses, those of three lose 6.
    private static void lostFrom0To42() {
        SpreadParity x = new SpreadParity();
        int[] due = {0, 4, 3 * 4, 6 + 3 * 4, 2 * 6 + 4 * 4, 4 * 6 + 3 * 4, 7 * 6};
        Check.same("lost()", x.lost(), 0);
        for (int i = 0; i < 7; i++) {
            Check.same("fail(" + (6 - i) + ")", x.fail(6 - i), due[i]);
            Check.same("lost()", x.lost(), due[i]);
        }
    }

    // Promise 17
    private static void wrongFrom0To21() {
        SpreadParity x = new SpreadParity();
        for (int stripe = 0; stripe < 21; stripe++) {
            Check.same("wrong()", x.wrong(), stripe);
            int parity = x.place(stripe, 2);
            x.corrupt(parity / 10, parity % 10, 1 << stripe % 16);
        }
        Check.same("wrong()", x.wrong(), 21);
    }

    // Promise 22: "1.0 if nothing was read"
    private static void balanceOfNothing() {
        SpreadParity x = new SpreadParity();
        Check.same("balance()", x.balance(), 1.0);
        x.corrupt(0, 0, 1);
        x.peek(0);
        x.wrong();
        Check.same("balance() as queries count no reads", x.balance(), 1.0);
        x.fail(0);
        x.write(0, 1);
        Check.same("balance() as nothing but writes were made", x.balance(), 1.0);
    }

    private static void balanceWithAnUnreadDisc() {
        for (int address = 0; address < 42; address++) {
            SpreadParity x = new SpreadParity();
            x.read(address);
            Check.same("balance() after read(" + address + ")", x.balance(), 0.0);
        }
        for (int disc = 0; disc < 7; disc++) {
            SpreadParity x = new SpreadParity();
            x.fail(disc);
            x.scrub();
            Check.same("balance() with disc " + disc + " unread", x.balance(), 0.0);
        }
    }

    private static void balanceOfEqualReads() {
        SpreadParity x = new SpreadParity();
        x.scrub();
        Check.same("balance()", x.balance(), 1.0);
        x.read(0);
        Check.same("balance()", x.balance(), 9.0 / 10.0);
    }

    // Promise 23: "lost() if it is failed and not being mended"
    private static void forecastOfAFailedDisc() {
        SpreadParity x = failed(0, 1);
        Check.same("lostIfFailed(0)", x.lostIfFailed(0), 4);
        Check.same("lostIfFailed(1)", x.lostIfFailed(1), x.lost());
    }

    private static void forecastOfADiscBeingMended() {
        for (int steps = 0; steps < 9; steps++) {
            SpreadParity x = failed(0, 1);
            x.beginMending(0);
            if (steps > 0) {
                x.mend(steps);
            }
            Check.same("lostIfFailed(0) at progress " + steps, x.lostIfFailed(0), 4);
            Check.same("state(0)", x.state(0), steps);
            Check.same("fail(0)", x.fail(0), 4);
        }
    }

    private static void forecastWithAllFailed() {
        SpreadParity x = failed(0, 1, 2, 3, 4, 5);
        Check.same("lost() with disc 6 alone", x.lost(), 36);
        Check.same("lostIfFailed(6)", x.lostIfFailed(6), 42);
        x.fail(6);
        for (int disc = 0; disc < 7; disc++) {
            Check.same("lostIfFailed(" + disc + ")", x.lostIfFailed(disc), 42);
        }
    }

    // Promise 24: "0 if both are the same"
    private static void loadOnItself() {
        SpreadParity x = new SpreadParity();
        for (int disc = 0; disc < 7; disc++) {
            Check.same("loadOf(" + disc + ", " + disc + ")", x.loadOf(disc, disc), 0);
        }
    }

    // Promise 24: "if the first disc alone was failed (and all others sound)"
    private static void loadIsNotOfNow() {
        SpreadParity x = failed(0, 1, 2, 3, 4, 5, 6);
        for (int disc = 0; disc < 7; disc++) {
            for (int other = 0; other < 7; other++) {
                Check.same("loadOf(" + disc + ", " + other + ")", x.loadOf(disc, other), disc == other ? 0 : 3);
            }
        }
    }

    // Promise 25: "among several such discs the least one"
    private static void worstOfEqualDiscs() {
        Check.same("worst() where none would lose an address", failed().worst(), 0);
        Check.same("worst() without disc 0", failed(0).worst(), 1);
        Check.same("worst() without the discs 0 and 1", failed(0, 1).worst(), 2);
    }

    // Promise 25: "the sound disc": the failure of the disc 0, at progress 8, would lose 4 addresses.
    private static void worstIsSound() {
        SpreadParity x = failed(0, 1, 2, 3, 4, 5);
        Check.same("worst()", x.worst(), 6);
        x.beginMending(0);
        x.mend(8);
        Check.same("worst() leaves out the disc that is being mended", x.worst(), 6);
        x.mend(1);
        Check.same("worst()", x.worst(), 0);
    }

    private static void worstOfOneSoundDisc() {
        for (int sound = 0; sound < 7; sound++) {
            SpreadParity x = new SpreadParity();
            for (int disc = 0; disc < 7; disc++) {
                if (disc != sound) {
                    x.fail(disc);
                }
            }
            Check.same("worst() where disc " + sound + " alone is sound", x.worst(), sound);
        }
    }

    // Promise 25: "NONE if no disc is sound"
    private static void worstOfNone() {
        SpreadParity x = failed(0, 1, 2, 3, 4, 5, 6);
        Check.same("worst()", x.worst(), NONE);
        x.beginMending(2);
        x.mend(8);
        Check.same("worst() where one is being mended", x.worst(), NONE);
        // A count of 9 is no state of 9.
        SpreadParity y = new SpreadParity();
        y.scrub();
        for (int disc = 0; disc < 7; disc++) {
            y.fail(disc);
        }
        Check.same("worst() where each disc has 9 reads", y.worst(), NONE);
    }
}
