/**
 * The boundary cases of the layout, of failed discs and of mending: for each sentence of the
 * document a test of its own.
 */
final class MendingEdgesTest {
    private static final int NONE = SpreadParity.NONE;

    private MendingEdgesTest() {
    }

    public static void main(String[] args) {
        membersWrapAround();
        parityMovesOnAfterSevenStripes();
        dataKeepTheirOrder();
        firstStripeOfADiscHasPlace0();
        addressesFill21Stripes();
        allIsSoundAtFirst();
        allUnitsGet0WhenADiscFails();
        mendedUnitsGet0WhenTheDiscFailsAgain();
        failsAgainAtEachProgress();
        failedDiscCannotFail();
        spareDiscIsUsedUpByTheSecondFailure();
        progressIs0AtFirst();
        unitsWithLesserPlacesAreThere();
        at9TheDiscIsSound();
        foundUnitIsReadFromBothOthersAndWritten();
        lostUnitCountsOneLoss();
        firstAndLastPlaceLost();
        noUnitCanBeFound();
        otherDiscIsMendedFarEnough();
        stepsEndEarly();
        noDiscIsBeingMended();
        oneCallGoesOnWithTheNextDisc();
        leastDiscComesFirstAlsoWhenItBeganLater();
        soundDiscIsNotMended();
        discBeingMendedIsNotBegunAgain();
        noSpareDisc();
        fiveSpareDiscs();
        roomForASpareDiscAgain();
        spareDiscGoesOnWithTheCounts();
        lossesOfAllDiscs();
        Check.end("MendingEdgesTest");
    }

    private static SpreadParity failed(int... discs) {
        SpreadParity x = new SpreadParity();
        for (int disc : discs) {
            x.fail(disc);
        }
        return x;
    }

    private static SpreadParity filled() {
        SpreadParity x = new SpreadParity();
        for (int address = 0; address < 42; address++) {
            x.write(address, 40000 + 11 * address);
        }
        return x;
    }

    // "lies on the discs i, (i + 1) % 7 and (i + 3) % 7"
    private static void membersWrapAround() {
        SpreadParity x = new SpreadParity();
        for (int first = 0; first < 21; first += 7) {
            Check.same("member(" + (first + 5) + ", 1)", x.member(first + 5, 1), 6);
            Check.same("member(" + (first + 6) + ", 1)", x.member(first + 6, 1), 0);
            Check.same("member(" + (first + 3) + ", 2)", x.member(first + 3, 2), 6);
            Check.same("member(" + (first + 4) + ", 2)", x.member(first + 4, 2), 0);
            Check.same("member(" + (first + 6) + ", 2)", x.member(first + 6, 2), 2);
            Check.same("member(" + (first + 6) + ", 0)", x.member(first + 6, 0), 6);
            Check.same("member(" + first + ", 0)", x.member(first, 0), 0);
        }
    }

    // "t as the quotient (0 to 2)", "The parity of the stripe is on its member t"
    private static void parityMovesOnAfterSevenStripes() {
        SpreadParity x = new SpreadParity();
        int[] stripes = {0, 6, 7, 13, 14, 20};
        int[] due = {0, 62, 13, 5, 36, 28};
        for (int i = 0; i < 6; i++) {
            Check.same("place(" + stripes[i] + ", 2)", x.place(stripes[i], 2), due[i]);
        }
    }

    // "its two data units are on the other two members, in their order"
    private static void dataKeepTheirOrder() {
        SpreadParity x = new SpreadParity();
        int[] stripes = {0, 6, 7, 13, 14, 20};
        int[] due0 = {10, 2, 3, 65, 6, 68};
        int[] due1 = {30, 22, 33, 25, 16, 8};
        for (int i = 0; i < 6; i++) {
            Check.same("place(" + stripes[i] + ", 0)", x.place(stripes[i], 0), due0[i]);
            Check.same("place(" + stripes[i] + ", 1)", x.place(stripes[i], 1), due1[i]);
        }
    }

    // "in ascending order of the numbers of the stripes (the first one has the place 0)"
    private static void firstStripeOfADiscHasPlace0() {
        SpreadParity x = new SpreadParity();
        int[] first = {0, 0, 1, 0, 1, 2, 3};
        int[] last = {20, 19, 20, 17, 18, 19, 20};
        for (int disc = 0; disc < 7; disc++) {
            Check.same("stripeAt(" + disc + ", 0)", x.stripeAt(disc, 0), first[disc]);
            Check.same("stripeAt(" + disc + ", 8)", x.stripeAt(disc, 8), last[disc]);
            for (int place = 1; place < 9; place++) {
                Check.holds("the stripes of disc " + disc + " ascend to place " + place,
                        x.stripeAt(disc, place) > x.stripeAt(disc, place - 1));
            }
        }
    }

    // "The address a is the data unit a % 2 of the stripe a / 2."
    private static void addressesFill21Stripes() {
        SpreadParity x = new SpreadParity();
        int[] addresses = {0, 1, 2, 39, 40, 41};
        int[] places = {10, 30, 20, 67, 68, 8};
        for (int i = 0; i < 6; i++) {
            x.write(addresses[i], 501 + i);
            Check.same("the unit of address " + addresses[i], x.unit(places[i] / 10, places[i] % 10), 501 + i);
        }
    }

    // "at first all are sound, and there are 2 spare discs", "a value .., at first 0"
    private static void allIsSoundAtFirst() {
        SpreadParity x = new SpreadParity();
        for (int disc = 0; disc < 7; disc++) {
            Check.same("state(" + disc + ")", x.state(disc), 9);
            Check.same("unit(" + disc + ", 0)", x.unit(disc, 0), 0);
            Check.same("unit(" + disc + ", 8)", x.unit(disc, 8), 0);
        }
        Check.same("spares()", x.spares(), 2);
        Check.same("losses()", x.losses(), 0);
        Check.same("lost()", x.lost(), 0);
        Check.same("wrong()", x.wrong(), 0);
    }

    // "When a disc fails, its units are not there any more, and all of them get the value 0": seen
    // when the disc is mended without any other, as a lost unit "keeps the value 0".
    private static void allUnitsGet0WhenADiscFails() {
        for (int disc = 0; disc < 7; disc++) {
            SpreadParity x = new SpreadParity();
            for (int place = 0; place < 9; place++) {
                x.corrupt(disc, place, 65535 - place);
            }
            failAll(x);
            showsOnlyZeros(x, disc);
        }
    }

    private static void failAll(SpreadParity x) {
        for (int disc = 0; disc < 7; disc++) {
            if (x.state(disc) != NONE) {
                x.fail(disc);
            }
        }
    }

    private static void showsOnlyZeros(SpreadParity x, int disc) {
        for (int place = 0; place < 9; place++) {
            Check.same("unit(" + disc + ", " + place + ") while failed", x.unit(disc, place), NONE);
        }
        x.addSpare();
        x.beginMending(disc);
        Check.same("mend(9)", x.mend(9), 9);
        for (int place = 0; place < 9; place++) {
            Check.same("unit(" + disc + ", " + place + ") that was lost", x.unit(disc, place), 0);
        }
    }

    // "(also when it fails while it is being mended)"
    private static void mendedUnitsGet0WhenTheDiscFailsAgain() {
        for (int steps = 1; steps < 9; steps++) {
            SpreadParity x = filled();
            x.fail(4);
            x.beginMending(4);
            x.mend(steps);
            for (int place = 0; place < steps; place++) {
                x.corrupt(4, place, 60000 + place);
            }
            x.fail(4);
            failAll(x);
            showsOnlyZeros(x, 4);
        }
    }

    // "when it fails while it is being mended": from the progress 0 to 8.
    private static void failsAgainAtEachProgress() {
        for (int steps = 0; steps < 9; steps++) {
            SpreadParity x = filled();
            x.fail(1);
            x.beginMending(1);
            if (steps > 0) {
                x.mend(steps);
            }
            Check.same("state(1)", x.state(1), steps);
            Check.same("fail(1) at progress " + steps, x.fail(1), 0);
            Check.same("state(1)", x.state(1), NONE);
            Check.same("mend(9) has nothing to mend", x.mend(9), 0);
            Check.same("beginMending(1)", x.beginMending(1), 0);
            Check.same("state(1) begins anew", x.state(1), 0);
            Check.same("mend(9)", x.mend(9), 9);
            Check.same("peek(0)", x.peek(0), 40000);
        }
    }

    // Promise 4: "if it is failed, and not being mended"
    private static void failedDiscCannotFail() {
        for (int disc = 0; disc < 7; disc++) {
            int one = disc;
            Twin.refuses("fail(" + disc + ") of a failed disc", Twin.STATE, x -> x.fail(one), x -> x.fail(one));
        }
        Twin.refuses("fail(2) after it has failed while being mended", Twin.STATE, x -> {
            x.fail(2);
            x.beginMending(2);
            x.mend(8);
            x.fail(2);
        }, x -> x.fail(2));
        SpreadParity x = failed(3);
        x.beginMending(3);
        x.mend(9);
        Check.same("fail(3) once it is sound again", x.fail(3), 0);
    }

    // "a spare disc takes its place": a disc that fails again needs another one.
    private static void spareDiscIsUsedUpByTheSecondFailure() {
        SpreadParity x = failed(5);
        Check.same("beginMending(5)", x.beginMending(5), 1);
        x.fail(5);
        Check.same("spares()", x.spares(), 1);
        Check.same("beginMending(5) again", x.beginMending(5), 0);
        x.fail(5);
        Check.same("spares()", x.spares(), 0);
        Check.noState(x, "beginMending(5) without a spare disc", () -> x.beginMending(5));
    }

    // "a spare disc takes its place, and its progress is 0"
    private static void progressIs0AtFirst() {
        SpreadParity x = failed(6);
        Check.same("state(6)", x.state(6), NONE);
        x.beginMending(6);
        Check.same("state(6)", x.state(6), 0);
        Check.same("unit(6, 0)", x.unit(6, 0), NONE);
    }

    // "the units with lesser places are there already"
    private static void unitsWithLesserPlacesAreThere() {
        SpreadParity x = failed(0);
        x.beginMending(0);
        for (int progress = 0; progress < 9; progress++) {
            Check.same("state(0)", x.state(0), progress);
            for (int place = 0; place < 9; place++) {
                Check.same("at progress " + progress + ", unit(0, " + place + ")", x.unit(0, place),
                        place < progress ? 0 : NONE);
            }
            x.mend(1);
        }
    }

    // "Then the progress increases by 1; when it would be 9, the disc is sound."
    private static void at9TheDiscIsSound() {
        SpreadParity x = failed(0);
        x.beginMending(0);
        x.mend(8);
        Check.same("state(0) before the last step", x.state(0), 8);
        Check.same("unit(0, 8)", x.unit(0, 8), NONE);
        Check.same("worst() leaves disc 0 out", x.worst() == 0 ? 1 : 0, 0);
        Check.same("the last step", x.mend(1), 1);
        Check.same("state(0)", x.state(0), 9);
        Check.same("unit(0, 8)", x.unit(0, 8), 0);
        Check.same("no step more", x.mend(1), 0);
        Check.noState(x, "beginMending(0) of the sound disc", () -> x.beginMending(0));
    }

    // "if its value can be found, both other units of its stripe are read, and the value is written"
    private static void foundUnitIsReadFromBothOthersAndWritten() {
        SpreadParity x = new SpreadParity();
        x.corrupt(1, 0, 65535);
        x.corrupt(3, 0, 255);
        x.fail(0);
        x.beginMending(0);
        x.mend(1);
        Check.same("unit(0, 0)", x.unit(0, 0), 65280);
        int[] reads = {0, 1, 0, 1, 0, 0, 0};
        for (int disc = 0; disc < 7; disc++) {
            Check.same("reads(" + disc + ")", x.reads(disc), reads[disc]);
            Check.same("writes(" + disc + ")", x.writes(disc), disc == 0 ? 1 : 0);
        }
        Check.same("losses()", x.losses(), 0);
    }

    // "if it is lost, it keeps the value 0, without reads and writes, and the losses increase by 1"
    private static void lostUnitCountsOneLoss() {
        int[] missing = {1, 3};
        for (int other : missing) {
            SpreadParity x = filled();
            SpreadParity before = filled();
            x.fail(0);
            x.fail(other);
            x.beginMending(0);
            Check.same("losses() before the step", x.losses(), 0);
            Check.same("mend(1)", x.mend(1), 1);
            Check.same("losses() after the step", x.losses(), 1);
            Check.same("state(0)", x.state(0), 1);
            Check.same("unit(0, 0)", x.unit(0, 0), 0);
            for (int disc = 0; disc < 7; disc++) {
                Check.same("reads(" + disc + ")", x.reads(disc), before.reads(disc));
                Check.same("writes(" + disc + ")", x.writes(disc), before.writes(disc));
            }
        }
    }

    // Disc 0 shares its places 2, 5 and 8 with disc 2, and its places 0, 3 and 6 with disc 1.
    private static void firstAndLastPlaceLost() {
        SpreadParity x = failed(0, 2);
        x.beginMending(0);
        Check.same("mend(8)", x.mend(8), 8);
        Check.same("losses()", x.losses(), 2);
        Check.same("mend(1), of the place 8", x.mend(1), 1);
        Check.same("losses()", x.losses(), 3);
        Check.same("state(0)", x.state(0), 9);
        Check.same("unit(0, 8)", x.unit(0, 8), 0);
        SpreadParity y = failed(0, 1);
        y.beginMending(0);
        Check.same("mend(1), of the place 0", y.mend(1), 1);
        Check.same("losses()", y.losses(), 1);
        Check.same("mend(8)", y.mend(8), 8);
        Check.same("losses()", y.losses(), 3);
    }

    private static void noUnitCanBeFound() {
        SpreadParity x = failed(0, 1, 2, 3, 4, 5, 6);
        Check.same("lost()", x.lost(), 42);
        x.beginMending(3);
        Check.same("mend(9)", x.mend(9), 9);
        Check.same("losses()", x.losses(), 9);
        Check.same("state(3)", x.state(3), 9);
        Check.same("writes(3)", x.writes(3), 0);
        Check.same("lost(), but for the data of disc 3", x.lost(), 36);
        Check.same("balance() as nothing was read", x.balance(), 1.0);
    }

    // "The value .. can be found if the other two units of its stripe are there": also on a disc
    // that is being mended, as far as it is.
    private static void otherDiscIsMendedFarEnough() {
        SpreadParity x = filled();
        x.fail(1);
        x.beginMending(1);
        x.mend(1);
        Check.same("fail(0)", x.fail(0), 3);
        Check.same("peek(14), whose parity is at the progress of disc 1 or above", x.peek(14), NONE);
        x.beginMending(0);
        Check.same("mend(1)", x.mend(1), 1);
        Check.same("losses()", x.losses(), 0);
        Check.same("unit(0, 0)", x.unit(0, 0), 40000 ^ 40011);
        Check.same("mend(8)", x.mend(8), 8);
        Check.same("losses()", x.losses(), 2);
        Check.same("state(1)", x.state(1), 1);
    }

    // "steps end early if there is none"
    private static void stepsEndEarly() {
        for (int done = 1; done < 9; done++) {
            SpreadParity x = failed(2);
            x.beginMending(2);
            x.mend(done);
            Check.same("mend(9) after " + done + " steps", x.mend(9), 9 - done);
            Check.same("state(2)", x.state(2), 9);
        }
        SpreadParity y = failed(2);
        y.beginMending(2);
        y.mend(8);
        Check.same("mend(2) of one place", y.mend(2), 1);
    }

    private static void noDiscIsBeingMended() {
        SpreadParity x = new SpreadParity();
        Check.same("mend(9) of sound discs", x.mend(9), 0);
        Check.same("mend(1) of sound discs", x.mend(1), 0);
        SpreadParity y = failed(0, 1, 2, 3, 4, 5, 6);
        Check.same("mend(9) of failed discs", y.mend(9), 0);
        Check.same("losses()", y.losses(), 0);
        for (int disc = 0; disc < 7; disc++) {
            Check.same("state(" + disc + ")", y.state(disc), NONE);
        }
    }

    // "Each step is one of the disc with the least number among those that are being mended then"
    private static void oneCallGoesOnWithTheNextDisc() {
        SpreadParity x = failed(0, 6);
        x.beginMending(6);
        x.beginMending(0);
        Check.same("mend(8)", x.mend(8), 8);
        Check.same("state(0)", x.state(0), 8);
        Check.same("state(6)", x.state(6), 0);
        Check.same("mend(2)", x.mend(2), 2);
        Check.same("state(0)", x.state(0), 9);
        Check.same("state(6)", x.state(6), 1);
        Check.same("mend(9) ends with disc 6", x.mend(9), 8);
        Check.same("state(6)", x.state(6), 9);
    }

    private static void leastDiscComesFirstAlsoWhenItBeganLater() {
        SpreadParity x = failed(6);
        x.beginMending(6);
        x.mend(5);
        x.fail(0);
        Check.same("mend(1) while disc 0 is failed", x.mend(1), 1);
        Check.same("state(6)", x.state(6), 6);
        x.beginMending(0);
        Check.same("mend(9)", x.mend(9), 9);
        Check.same("state(0)", x.state(0), 9);
        Check.same("state(6)", x.state(6), 6);
        x.fail(0);
        Check.same("mend(9) once disc 0 is failed again", x.mend(9), 3);
        Check.same("state(0)", x.state(0), NONE);
        Check.same("state(6)", x.state(6), 9);
    }

    // Promise 5: "if it is sound .."
    private static void soundDiscIsNotMended() {
        for (int disc = 0; disc < 7; disc++) {
            int one = disc;
            Twin.refuses("beginMending(" + disc + ") of a sound disc", Twin.STATE, x -> { }, x -> x.beginMending(one));
        }
        Twin.refuses("beginMending(1) of a disc that is sound again", Twin.STATE, x -> {
            x.fail(1);
            x.beginMending(1);
            x.mend(9);
        }, x -> x.beginMending(1));
    }

    // Promise 5: ".. or is being mended already": from the progress 0 to 8.
    private static void discBeingMendedIsNotBegunAgain() {
        for (int steps = 0; steps < 9; steps++) {
            int first = steps;
            Twin.refuses("beginMending(4) at progress " + steps, Twin.STATE, x -> {
                x.fail(4);
                x.beginMending(4);
                if (first > 0) {
                    x.mend(first);
                }
            }, x -> x.beginMending(4));
        }
    }

    // Promise 5: ".. or there is no spare disc"
    private static void noSpareDisc() {
        SpreadParity x = failed(0, 3, 6);
        Check.same("spares()", x.spares(), 2);
        Check.same("beginMending(0)", x.beginMending(0), 1);
        Check.same("beginMending(6)", x.beginMending(6), 0);
        Check.same("spares()", x.spares(), 0);
        Check.same("addSpare()", x.addSpare(), 1);
        Check.same("beginMending(3) with the spare disc that was added", x.beginMending(3), 0);
        Twin.refuses("beginMending(3) without a spare disc", Twin.STATE, y -> {
            y.fail(0);
            y.fail(3);
            y.fail(6);
            y.beginMending(0);
            y.beginMending(6);
        }, y -> y.beginMending(3));
    }

    // Promise 7: "if there are 5"
    private static void fiveSpareDiscs() {
        SpreadParity x = new SpreadParity();
        for (int due = 3; due <= 5; due++) {
            Check.same("addSpare()", x.addSpare(), due);
            Check.same("spares()", x.spares(), due);
        }
        Twin.refuses("addSpare() with 5", Twin.STATE, y -> {
            y.addSpare();
            y.addSpare();
            y.addSpare();
        }, SpreadParity::addSpare);
    }

    private static void roomForASpareDiscAgain() {
        SpreadParity x = failed(2);
        x.addSpare();
        x.addSpare();
        Check.same("addSpare()", x.addSpare(), 5);
        Check.same("beginMending(2)", x.beginMending(2), 4);
        Check.same("addSpare() where one has gone", x.addSpare(), 5);
        Check.noState(x, "addSpare() with 5 again", x::addSpare);
        SpreadParity y = failed(0, 1);
        y.beginMending(0);
        y.beginMending(1);
        Check.same("addSpare() with none", y.addSpare(), 1);
    }

    // "a spare disc goes on with the counts of the disc whose place it takes"
    private static void spareDiscGoesOnWithTheCounts() {
        SpreadParity x = new SpreadParity();
        x.write(0, 1);
        x.write(0, 2);
        x.fail(1);
        Check.same("reads(1) of the failed disc", x.reads(1), 2);
        Check.same("writes(1) of the failed disc", x.writes(1), 2);
        x.beginMending(1);
        Check.same("reads(1) of the spare disc", x.reads(1), 2);
        Check.same("writes(1) of the spare disc", x.writes(1), 2);
        x.mend(1);
        Check.same("writes(1) after a step", x.writes(1), 3);
    }

    // Each disc in its turn, from the last one down, is mended as the only one: all its units are lost.
    private static void lossesOfAllDiscs() {
        SpreadParity x = failed(0, 1, 2, 3, 4, 5, 6);
        for (int i = 1; i <= 7; i++) {
            x.addSpare();
            x.beginMending(7 - i);
            x.mend(9);
            Check.same("losses()", x.losses(), 9 * i);
            x.fail(7 - i);
        }
        Check.same("spares()", x.spares(), 2);
        Check.same("losses()", x.losses(), 63);
    }
}
