/** Edges of the promises 12, 15, 17 and 18 in the free mode, of "FREE BUDGETS" and "THE RESULT". */
final class FreeEdgesTest {
    private static final Checks checks = new Checks();

    public static void main(String[] args) {
        targetOfTheLoopsLength();
        theLeastTarget();
        theGreatestTarget();
        oneSampleIsLeft();
        fifteenSamplesAreLeft();
        noneIsLeft();
        equalRemaindersGoToTheLowestNumber();
        noRemainderGetsNone();
        theOrderSharesNothing();
        toldTheLoop();
        toldThatTheyCanBeLaid();
        toldBudgetsAtTheLeastLimit();
        toldBudgetsAtTheGreatestLimit();
        toldLimitsRoundedDown();
        toldEmptySlicesBeyondLimits();
        toldAllSixteenBeyondLimits();
        toldFades();
        toldChanges();
        toldNothingElse();
        fadesOfAFourth();
        fadesOfTheLongest();
        fadesOfNone();
        fadesOfASliceAlone();
        fadesOfTheLastAndTheFirst();
        slicesWithoutSteps();
        beginsOfEmptySlices();
        beginsOfSixteen();
        loudestOfSilence();
        loudestAtBothEnds();
        loudestOfSeveral();
        loudestBesideTheSlice();
        noSuchSlice();
        noSuchNumberOfASlice();
        sourceOfTheFirstAndTheLastSample();
        sourceOfNoSample();
        sourceOfNoNumber();
        sourceBetweenSlices();
        sourceOfStretchedAndOfShortened();
        sourceOfTheGreatest();
        sourceInTheFade();
        sourceWithoutFade();
        sourceInTheFadeOfASliceAlone();
        sourceSkipsEmptySlices();
        warpOfEmptySlices();
        warpOfTheLeastAndTheGreatest();
        warpInFloat();
        warpOfNoSlice();
        checks.end();
    }

    private static LoopSlicer free(int samples, int target, int frames, int... marks) {
        LoopSlicer x = Made.withMarks(frames, marks);
        x.set(0, samples);
        x.set(5, target);
        return x;
    }

    private static LoopSlicer sixteenOfOne(int target) {
        LoopSlicer x = Made.withSixteen(16);
        x.set(0, 1);
        x.set(5, target);
        return x;
    }

    private static void dueBudgets(String when, LoopSlicer x, int... budgets) {
        checks.dueRow(when + ": budget", slice -> x.slice(slice, 2), budgets);
        checks.due(when + ": no more slices", x.slice(budgets.length, 2), -1);
    }

    // "In the free mode, the target T is shared among the slices by their lengths: a slice of the
    // length n gets n * T / (F * S) samples, and leaves a remainder, n * T modulo (F * S). The
    // samples that are left of T after this are given out one by one, one for each slice, by the
    // greatest remainders first, of equal ones to the slice with the lowest number."

    private static void targetOfTheLoopsLength() {
        dueBudgets("as long", free(100, 1600, 16, 1, 15), 100, 1400, 100);
        dueBudgets("as long as one sample", free(1, 1, 1), 1);
    }

    private static void theLeastTarget() {
        // The remainders are the lengths 2, 5 and 3.
        dueBudgets("one sample", free(1, 1, 10, 2, 7), 0, 1, 0);
        dueBudgets("one sample for 16 slices", sixteenOfOne(1),
                1, 0, 0, 0, 0, 0, 0, 0, 0, 0, 0, 0, 0, 0, 0, 0);
        dueBudgets("one sample of 64000", free(1000, 1, 64, 32, 63), 1, 0, 0);
    }

    private static void theGreatestTarget() {
        dueBudgets("200000 from one sample", free(1, 200000, 1), 200000);
        dueBudgets("200000 from 64000", free(1000, 200000, 64, 1), 3125, 196875);
        // 21000 * 200000 / 64000 = 65625, which is more than an int can hold before it is divided.
        dueBudgets("200000 from 21000 of 64000", free(1000, 200000, 64, 21), 65625, 134375);
        // 199999 leaves 13 and 51 of 64 for the lengths 51 and 13.
        dueBudgets("199999 from 64000", free(1000, 199999, 64, 51), 159374, 40625);
    }

    private static void oneSampleIsLeft() {
        // 17 / 16 = 1 for each, and one is left, of sixteen equal remainders.
        dueBudgets("17 for 16 slices", sixteenOfOne(17),
                2, 1, 1, 1, 1, 1, 1, 1, 1, 1, 1, 1, 1, 1, 1, 1);
        // 7 gives 4.9 and 2.1.
        dueBudgets("7 for two slices", free(1, 7, 10, 7), 5, 2);
    }

    private static void fifteenSamplesAreLeft() {
        dueBudgets("15 for 16 slices", sixteenOfOne(15),
                1, 1, 1, 1, 1, 1, 1, 1, 1, 1, 1, 1, 1, 1, 1, 0);
        dueBudgets("31 for 16 slices", sixteenOfOne(31),
                2, 2, 2, 2, 2, 2, 2, 2, 2, 2, 2, 2, 2, 2, 2, 1);
    }

    private static void noneIsLeft() {
        dueBudgets("16 for 16 slices", sixteenOfOne(16),
                1, 1, 1, 1, 1, 1, 1, 1, 1, 1, 1, 1, 1, 1, 1, 1);
        dueBudgets("200000 for 16 slices", sixteenOfOne(200000), 12500, 12500, 12500, 12500,
                12500, 12500, 12500, 12500, 12500, 12500, 12500, 12500, 12500, 12500, 12500, 12500);
    }

    private static void equalRemaindersGoToTheLowestNumber() {
        // 5 gives 1.25, 2.5 and 1.25: after the greatest remainder none is left.
        dueBudgets("one greatest remainder", free(1, 5, 4, 1, 3), 1, 3, 1);
        // 7 gives 1.75, 3.5 and 1.75.
        dueBudgets("two greatest remainders", free(1, 7, 4, 1, 3), 2, 3, 2);
        // 6 gives 1.5, 3 and 1.5.
        dueBudgets("of two equal ones the lower", free(1, 6, 4, 1, 3), 2, 3, 1);
    }

    private static void noRemainderGetsNone() {
        // 6 gives 3, 1.5 and 1.5.
        dueBudgets("the first one leaves nothing", free(1, 6, 4, 2, 3), 3, 2, 1);
    }

    private static void theOrderSharesNothing() {
        LoopSlicer x = free(1, 1, 2, 1);
        x.reverse();
        dueBudgets("the last one in the order has the lowest number", x, 1, 0);
        checks.due("reversed: source(0, 0)", x.source(0, 0), 0);
    }

    // Promise 12: "what: 0 F; 1 the loop's length; 2 marks; 3 whether the slices can be laid in
    // the present mode (1 or 0; 1 in the free mode); 4 slices whose warp is beyond the limits:
    // their budget is less than n * least / 100 or greater than n * greatest / 100 (..); 5 the sum
    // of all fades (..); 6 changes that can be undone"; "BAD if what is out of range."

    private static void toldTheLoop() {
        LoopSlicer least = free(1, 1, 1);
        checks.dueRow("the least loop: told", least::told, 1, 1, 1, 1, 0, 0, 3, -1);
        LoopSlicer greatest = Made.withSixteen(64);
        greatest.set(0, 1000);
        greatest.set(5, 64000);
        checks.dueRow("the greatest loop: told", greatest::told, 64, 64000, 16, 1, 0, 800, 8, -1);
    }

    private static void toldThatTheyCanBeLaid() {
        // In the free mode neither the limits nor the grid can hinder it.
        LoopSlicer x = free(1000, 1, 64, 1, 2);
        x.set(3, 100);
        x.set(4, 100);
        x.set(6, 1);
        checks.due("free: told(3)", x.told(3), 1);
        checks.due("free: told(4)", x.told(4), 3);
        x.set(7, 1);
        checks.due("grid: told(3)", x.told(3), 0);
        checks.due("grid: told(4)", x.told(4), -9);
    }

    private static int beyond(LoopSlicer x, int target) {
        x.set(5, target);
        return x.told(4);
    }

    private static void toldBudgetsAtTheLeastLimit() {
        LoopSlicer x = free(1, 1, 10);
        checks.due("5 of 10 at 50: told(4)", beyond(x, 5), 0);
        checks.due("4 of 10 at 50: told(4)", beyond(x, 4), 1);
        checks.due("6 of 10 at 50: told(4)", beyond(x, 6), 0);
        x.set(3, 100);
        checks.due("10 of 10 at 100: told(4)", beyond(x, 10), 0);
        checks.due("9 of 10 at 100: told(4)", beyond(x, 9), 1);
        x.set(3, 10);
        checks.due("1 of 10 at 10: told(4)", beyond(x, 1), 0);
    }

    private static void toldBudgetsAtTheGreatestLimit() {
        LoopSlicer x = free(1, 1, 10);
        checks.due("20 of 10 at 200: told(4)", beyond(x, 20), 0);
        checks.due("21 of 10 at 200: told(4)", beyond(x, 21), 1);
        checks.due("19 of 10 at 200: told(4)", beyond(x, 19), 0);
        x.set(4, 100);
        checks.due("10 of 10 at 100: told(4)", beyond(x, 10), 0);
        checks.due("11 of 10 at 100: told(4)", beyond(x, 11), 1);
        x.set(4, 1000);
        checks.due("100 of 10 at 1000: told(4)", beyond(x, 100), 0);
        checks.due("101 of 10 at 1000: told(4)", beyond(x, 101), 1);
        x.set(0, 1000);
        checks.due("100000 of 10000 at 1000: told(4)", beyond(x, 100000), 0);
        checks.due("100001 of 10000 at 1000: told(4)", beyond(x, 100001), 1);
    }

    private static void toldLimitsRoundedDown() {
        // 7 * 50 / 100 = 3 and 7 * 250 / 100 = 17.
        LoopSlicer x = free(1, 1, 7);
        x.set(4, 250);
        checks.due("3 of 7 at 50: told(4)", beyond(x, 3), 0);
        checks.due("2 of 7 at 50: told(4)", beyond(x, 2), 1);
        checks.due("17 of 7 at 250: told(4)", beyond(x, 17), 0);
        checks.due("18 of 7 at 250: told(4)", beyond(x, 18), 1);
    }

    private static void toldEmptySlicesBeyondLimits() {
        // 1 * 99 / 100 = 0, so that a slice of one sample may get none.
        LoopSlicer x = free(1, 1, 2, 1);
        x.set(3, 99);
        dueBudgets("one for two", x, 1, 0);
        checks.due("0 of 1 at 99: told(4)", x.told(4), 0);
        x.set(3, 100);
        checks.due("0 of 1 at 100: told(4)", x.told(4), 1);
    }

    private static void toldAllSixteenBeyondLimits() {
        LoopSlicer x = sixteenOfOne(200000);
        checks.due("12500 of 1: told(4)", x.told(4), 16);
        checks.due("33 for 16: told(4)", beyond(x, 33), 1);
        checks.due("47 for 16: told(4)", beyond(x, 47), 15);
        checks.due("32 for 16: told(4)", beyond(x, 32), 0);
    }

    private static void toldFades() {
        // 4 for each make fades of one; if the last one has 3, it has none, nor the one before it.
        LoopSlicer x = sixteenOfOne(64);
        checks.due("64 for 16: told(5)", x.told(5), 16);
        x.set(5, 63);
        checks.due("63 for 16: told(5)", x.told(5), 14);
        x.set(5, 48);
        checks.due("48 for 16: told(5)", x.told(5), 0);
        x.set(5, 200000);
        x.set(8, 500);
        checks.due("200000 for 16: told(5)", x.told(5), 8000);
        // Two slices have two fades, which are as long.
        checks.due("20 and 30: told(5)", free(1, 50, 50, 20).told(5), 10);
    }

    private static void toldChanges() {
        LoopSlicer x = new LoopSlicer();
        for (int changes = 0; changes <= 10; changes++) {
            checks.due("told(6)", x.told(6), Math.min(changes, 8));
            x.set(8, changes);
        }
    }

    private static void toldNothingElse() {
        LoopSlicer x = new LoopSlicer();
        checks.due("told(-1)", x.told(-1), -1);
        checks.due("told(7)", x.told(7), -1);
        checks.due("told(least int)", x.told(Integer.MIN_VALUE), -1);
        checks.due("told(greatest int)", x.told(Integer.MAX_VALUE), -1);
    }

    // "The fade between a slice and the next one in the order (behind the last one comes the first
    // one; a slice alone is its own next one) is the least one of the longest fade and a fourth
    // (b / 4) of both budgets."

    private static void fadesOfAFourth() {
        // 43 / 4 = 10 and 14 / 4 = 3
        LoopSlicer x = free(1, 57, 57, 43);
        dueBudgets("43 and 14", x, 43, 14);
        checks.dueRow("43 and 14: fade", slice -> x.slice(slice, 6), 3, 3);
        LoopSlicer y = free(1, 8, 8, 4);
        checks.dueRow("4 and 4: fade", slice -> y.slice(slice, 6), 1, 1);
        y.set(5, 7);
        dueBudgets("4 and 3", y, 4, 3);
        checks.dueRow("4 and 3: fade", slice -> y.slice(slice, 6), 0, 0);
    }

    private static void fadesOfTheLongest() {
        LoopSlicer x = free(100, 400, 4, 2);
        checks.dueRow("200 and 200 at 50: fade", slice -> x.slice(slice, 6), 50, 50);
        x.set(8, 49);
        checks.dueRow("200 and 200 at 49: fade", slice -> x.slice(slice, 6), 49, 49);
        x.set(8, 51);
        checks.dueRow("200 and 200 at 51: fade", slice -> x.slice(slice, 6), 50, 50);
        x.set(8, 500);
        x.set(5, 4000);
        checks.dueRow("2000 and 2000 at 500: fade", slice -> x.slice(slice, 6), 500, 500);
        x.set(5, 4008);
        checks.dueRow("2004 and 2004 at 500: fade", slice -> x.slice(slice, 6), 500, 500);
        x.set(5, 3999);
        dueBudgets("2000 and 1999", x, 2000, 1999);
        checks.dueRow("2000 and 1999 at 500: fade", slice -> x.slice(slice, 6), 499, 499);
    }

    private static void fadesOfNone() {
        LoopSlicer x = free(100, 400, 4, 2);
        x.set(8, 0);
        checks.dueRow("at 0: fade", slice -> x.slice(slice, 6), 0, 0);
        checks.due("at 0: told(5)", x.told(5), 0);
        x.set(8, 1);
        checks.dueRow("at 1: fade", slice -> x.slice(slice, 6), 1, 1);
        checks.due("at 1: told(5)", x.told(5), 2);
    }

    private static void fadesOfASliceAlone() {
        LoopSlicer x = free(1, 7, 1);
        checks.due("7 alone: slice(0, 6)", x.slice(0, 6), 1);
        checks.due("7 alone: told(5)", x.told(5), 1);
        x.set(5, 3);
        checks.due("3 alone: slice(0, 6)", x.slice(0, 6), 0);
        x.set(5, 199);
        checks.due("199 alone: slice(0, 6)", x.slice(0, 6), 49);
        x.set(5, 200000);
        checks.due("200000 alone: slice(0, 6)", x.slice(0, 6), 50);
    }

    private static void fadesOfTheLastAndTheFirst() {
        // Budgets of 100, 400 and 500: fourths of 25, 100 and 125.
        LoopSlicer x = free(100, 1000, 10, 1, 5);
        x.set(8, 500);
        checks.dueRow("0, 1, 2: fade", slice -> x.slice(slice, 6), 25, 100, 25);
        checks.due("0, 1, 2: told(5)", x.told(5), 150);
        x.swap(0, 1);
        checks.dueRow("1, 0, 2: fade", slice -> x.slice(slice, 6), 25, 25, 100);
        x.reverse();
        checks.dueRow("2, 0, 1: fade", slice -> x.slice(slice, 6), 25, 100, 25);
    }

    // Promise 15: "what: 0 the frame of its mark; 1 its length; 2 its budget; 3 the step to which
    // its mark is drawn (NONE in the free mode); 4 where it begins in the result, by the order
    // (also if its budget is 0); 5 its place in the order; 6 its fade to the next one in the
    // order; 7 the frame with the greatest energy in it, the first one of several"; "BAD if there
    // is no such slice or what is out of range."

    private static void slicesWithoutSteps() {
        LoopSlicer x = free(100, 1600, 16, 4);
        checks.dueRow("free: slice(.., 3)", slice -> x.slice(slice, 3), -9, -9, -1);
        x.set(7, 1);
        checks.dueRow("grid: slice(.., 3)", slice -> x.slice(slice, 3), 0, 4, -1);
    }

    private static void beginsOfEmptySlices() {
        LoopSlicer x = free(1, 1, 3, 1, 2);
        dueBudgets("one for three", x, 1, 0, 0);
        // Behind the last sample of the result.
        checks.dueRow("0, 1, 2: begin", slice -> x.slice(slice, 4), 0, 1, 1);
        x.reverse();
        checks.dueRow("2, 1, 0: begin", slice -> x.slice(slice, 4), 0, 0, 0);
        x.swap(1, 2);
        checks.dueRow("2, 0, 1: begin", slice -> x.slice(slice, 4), 0, 1, 0);
    }

    private static void beginsOfSixteen() {
        LoopSlicer x = sixteenOfOne(200000);
        x.reverse();
        for (int slice = 0; slice < 16; slice++) {
            String call = "16 slices: slice(" + slice + ", ";
            checks.due(call + "4)", x.slice(slice, 4), (15 - slice) * 12500);
            checks.due(call + "5)", x.slice(slice, 5), 15 - slice);
        }
    }

    private static void loudestOfSilence() {
        LoopSlicer x = Made.withMarks(8, 3, 7);
        checks.dueRow("silence: slice(.., 7)", slice -> x.slice(slice, 7), 0, 3, 7, -1);
        x.sound(0, 7, 999);
        checks.dueRow("all as loud: slice(.., 7)", slice -> x.slice(slice, 7), 0, 3, 7, -1);
    }

    private static void loudestAtBothEnds() {
        LoopSlicer x = Made.withEnergies(5, 4, 6, 9, 8, 8, 1, 2);
        x.mark(3);
        x.mark(6);
        checks.dueRow("slice(.., 7)", slice -> x.slice(slice, 7), 2, 3, 7, -1);
        LoopSlicer y = Made.withMarks(64);
        y.sound(63, 63, 1);
        checks.due("the last frame: slice(0, 7)", y.slice(0, 7), 63);
    }

    private static void loudestOfSeveral() {
        LoopSlicer x = Made.withEnergies(1, 7, 2, 7, 999, 0, 999, 999);
        x.mark(4);
        checks.dueRow("several: slice(.., 7)", slice -> x.slice(slice, 7), 1, 4, -1);
    }

    private static void loudestBesideTheSlice() {
        LoopSlicer x = Made.withEnergies(1, 900, 2, 3, 900, 1);
        x.mark(2);
        x.mark(4);
        checks.due("louder frames beside: slice(1, 7)", x.slice(1, 7), 3);
        // What lies behind the end of the loop does not count, though it was loud before.
        x.begin(3);
        checks.due("a shorter loop: slice(0, 7)", x.slice(0, 7), 0);
    }

    private static void noSuchSlice() {
        LoopSlicer x = free(1, 9, 9, 3, 6);
        for (int what = 0; what < 8; what++) {
            checks.due("slice(-1, " + what + ")", x.slice(-1, what), -1);
            checks.due("slice(3, " + what + ")", x.slice(3, what), -1);
        }
        checks.due("slice(least int, 0)", x.slice(Integer.MIN_VALUE, 0), -1);
        checks.due("slice(greatest int, 0)", x.slice(Integer.MAX_VALUE, 0), -1);
        LoopSlicer y = Made.withSixteen(16);
        checks.due("16 slices: slice(15, 0)", y.slice(15, 0), 15);
        checks.due("16 slices: slice(16, 0)", y.slice(16, 0), -1);
    }

    private static void noSuchNumberOfASlice() {
        LoopSlicer x = free(1, 9, 9, 3, 6);
        checks.due("slice(0, -1)", x.slice(0, -1), -1);
        checks.due("slice(0, 8)", x.slice(0, 8), -1);
        checks.due("slice(2, 8)", x.slice(2, 8), -1);
        checks.due("slice(0, least int)", x.slice(0, Integer.MIN_VALUE), -1);
        checks.due("slice(0, greatest int)", x.slice(0, Integer.MAX_VALUE), -1);
    }

    // "The sample j of a slice in the result, from 0 to b - 1, comes from the sample (its begin in
    // the loop) + j * n / b." Promise 17: "sample: the sample, 0 to the target minus 1; what: 0
    // the slice; 1 the sample of the loop; 2 whether it lies in a fade: in the last samples of its
    // slice, as many as the slice's fade (1 or 0)"; "BAD if sample or what is out of range."

    private static void sourceOfTheFirstAndTheLastSample() {
        LoopSlicer x = free(10, 100, 10, 3, 7);
        x.reverse();
        checks.dueRow("source(0, ..)", what -> x.source(0, what), 2, 70, 0, -1);
        checks.dueRow("source(99, ..)", what -> x.source(99, what), 0, 29, 1, -1);
        LoopSlicer y = free(1, 1, 1);
        checks.dueRow("one sample: source(0, ..)", what -> y.source(0, what), 0, 0, 0, -1);
    }

    private static void sourceOfNoSample() {
        LoopSlicer x = free(10, 100, 10, 3);
        for (int what = 0; what < 3; what++) {
            checks.due("source(-1, " + what + ")", x.source(-1, what), -1);
            checks.due("source(100, " + what + ")", x.source(100, what), -1);
        }
        checks.due("source(least int, 0)", x.source(Integer.MIN_VALUE, 0), -1);
        checks.due("source(greatest int, 0)", x.source(Integer.MAX_VALUE, 0), -1);
        x.set(5, 1);
        checks.due("one sample: source(1, 0)", x.source(1, 0), -1);
        x.set(5, 200000);
        checks.due("200000: source(199999, 0)", x.source(199999, 0), 1);
        checks.due("200000: source(200000, 0)", x.source(200000, 0), -1);
    }

    private static void sourceOfNoNumber() {
        LoopSlicer x = free(10, 100, 10, 3);
        checks.due("source(0, -1)", x.source(0, -1), -1);
        checks.due("source(0, 3)", x.source(0, 3), -1);
        checks.due("source(99, 3)", x.source(99, 3), -1);
        checks.due("source(0, least int)", x.source(0, Integer.MIN_VALUE), -1);
        checks.due("source(0, greatest int)", x.source(0, Integer.MAX_VALUE), -1);
    }

    private static void sourceBetweenSlices() {
        LoopSlicer x = free(10, 100, 10, 3, 7);
        x.swap(0, 1);
        // Slices of 40, 30 and 30 samples.
        checks.due("source(39, 0)", x.source(39, 0), 1);
        checks.due("source(39, 1)", x.source(39, 1), 69);
        checks.due("source(40, 0)", x.source(40, 0), 0);
        checks.due("source(40, 1)", x.source(40, 1), 0);
        checks.due("source(69, 0)", x.source(69, 0), 0);
        checks.due("source(69, 1)", x.source(69, 1), 29);
        checks.due("source(70, 0)", x.source(70, 0), 2);
        checks.due("source(70, 1)", x.source(70, 1), 70);
    }

    private static void sourceOfStretchedAndOfShortened() {
        // Two slices of 5 samples; to 8 each, and to 3 each.
        LoopSlicer x = free(5, 16, 2, 1);
        checks.dueRow("stretched: source", j -> x.source(j, 1),
                0, 0, 1, 1, 2, 3, 3, 4, 5, 5, 6, 6, 7, 8, 8, 9, -1);
        LoopSlicer y = free(5, 6, 2, 1);
        checks.dueRow("shortened: source", j -> y.source(j, 1), 0, 1, 3, 5, 6, 8, -1);
        LoopSlicer z = free(5, 2, 2, 1);
        checks.dueRow("to one sample each: source", j -> z.source(j, 1), 0, 5, -1);
    }

    private static void sourceOfTheGreatest() {
        // 199999 * 64000 / 200000 = 63999.68
        LoopSlicer x = free(1000, 200000, 64);
        checks.due("source(199999, 1)", x.source(199999, 1), 63999);
        checks.due("source(100000, 1)", x.source(100000, 1), 32000);
        checks.due("source(99999, 1)", x.source(99999, 1), 31999);
        // The greatest target from one sample, and the greatest loop in one sample.
        checks.due("of one: source(199999, 1)", free(1, 200000, 1).source(199999, 1), 0);
        checks.due("in one: source(0, 1)", free(1000, 1, 64).source(0, 1), 0);
        // The mark 63 has the greatest begin in the loop.
        LoopSlicer y = free(1000, 200000, 64, 63);
        checks.due("at 63: source(196875, 1)", y.source(196875, 1), 63000);
        checks.due("at 63: source(199999, 1)", y.source(199999, 1), 63999);
    }

    private static void sourceInTheFade() {
        // Budgets of 40 and 60, and fades of 10.
        LoopSlicer x = free(10, 100, 10, 4);
        checks.due("source(29, 2)", x.source(29, 2), 0);
        checks.due("source(30, 2)", x.source(30, 2), 1);
        checks.due("source(39, 2)", x.source(39, 2), 1);
        checks.due("source(40, 2)", x.source(40, 2), 0);
        checks.due("source(89, 2)", x.source(89, 2), 0);
        checks.due("source(90, 2)", x.source(90, 2), 1);
        checks.due("source(99, 2)", x.source(99, 2), 1);
    }

    private static void sourceWithoutFade() {
        LoopSlicer x = free(10, 100, 10, 4);
        x.set(8, 0);
        checks.due("at 0: source(39, 2)", x.source(39, 2), 0);
        checks.due("at 0: source(99, 2)", x.source(99, 2), 0);
        x.set(8, 1);
        checks.due("at 1: source(38, 2)", x.source(38, 2), 0);
        checks.due("at 1: source(39, 2)", x.source(39, 2), 1);
        // 3 / 4 = 0
        LoopSlicer y = free(1, 3, 3);
        checks.dueRow("3 samples: source(.., 2)", j -> y.source(j, 2), 0, 0, 0, -1);
    }

    private static void sourceInTheFadeOfASliceAlone() {
        LoopSlicer x = free(1, 8, 8);
        checks.dueRow("8 samples: source(.., 2)", j -> x.source(j, 2),
                0, 0, 0, 0, 0, 0, 1, 1, -1);
    }

    private static void sourceSkipsEmptySlices() {
        // 2 samples for the slices of 1, 8, 1, 8 and 1 frames.
        LoopSlicer x = free(1, 2, 19, 1, 9, 10, 18);
        dueBudgets("two for five", x, 0, 1, 0, 1, 0);
        checks.dueRow("two for five: source(.., 0)", j -> x.source(j, 0), 1, 3, -1);
        checks.dueRow("two for five: source(.., 1)", j -> x.source(j, 1), 1, 10, -1);
        x.reverse();
        checks.dueRow("reversed: source(.., 0)", j -> x.source(j, 0), 3, 1, -1);
    }

    // Promise 18: "Returns how much a slice is warped: its budget divided by its length, both
    // converted to float." "BAD, as a float, if there is no such slice."

    private static void warpOfEmptySlices() {
        LoopSlicer x = free(1000, 1, 64, 63);
        checks.due("no samples: warp(1)", x.warp(1), 0);
    }

    private static void warpOfTheLeastAndTheGreatest() {
        checks.due("1 of 64000: warp(0)", free(1000, 1, 64).warp(0), 1f / 64000f);
        checks.due("200000 of 1: warp(0)", free(1, 200000, 1).warp(0), 200000f);
        checks.due("1 of 1: warp(0)", free(1, 1, 1).warp(0), 1);
        checks.due("64000 of 64000: warp(0)", free(1000, 64000, 64).warp(0), 1);
    }

    private static void warpInFloat() {
        checks.due("1 of 3: warp(0)", free(1, 1, 3).warp(0), 1f / 3f);
        checks.due("2 of 3: warp(0)", free(1, 2, 3).warp(0), 0.6666666865348816);
        checks.due("10 of 3: warp(0)", free(1, 10, 3).warp(0), 3.3333332538604736);
        checks.due("199999 of 63000: warp(0)", free(1000, 199999, 63).warp(0), 199999f / 63000f);
    }

    private static void warpOfNoSlice() {
        LoopSlicer x = free(1, 9, 9, 3, 6);
        checks.due("warp(2)", x.warp(2), 1);
        int[] wrong = {-1, 3, 16, Integer.MIN_VALUE, Integer.MAX_VALUE};
        for (int slice : wrong) {
            checks.due("warp(" + slice + ")", x.warp(slice), -1);
        }
        checks.due("16 slices: warp(15)", sixteenOfOne(16).warp(15), 1);
        checks.due("16 slices: warp(16)", sixteenOfOne(16).warp(16), -1);
    }
}
