/** Edges of the promises 12, 15 and 17 to 21 on the grid, and of "THE GRID". */
final class GridEdgesTest {
    private static final Checks checks = new Checks();

    public static void main(String[] args) {
        oneStep();
        thirtyTwoSteps();
        asManyStepsAsMarks();
        sixteenMarks();
        stepsLieAtSamplesRoundedDown();
        theFirstMarkStaysAtTheFirstStep();
        theLastMarkStaysBeforeTheLastStep();
        noTwoMarksAtOneStep();
        theGreatestTarget();
        stepsAtTheSameSample();
        theLesserStepForTheFirstMark();
        theLesserStepForTheSecondMark();
        theLesserStepForTheFirstMarkThatDiffers();
        budgetsAtTheLeastLimit();
        budgetsAtTheGreatestLimit();
        limitsRoundedDown();
        emptySlicesWithinLimits();
        limitsForbidTheNearestStep();
        limitsOfALaterSlice();
        limitsLeaveNoWay();
        theOrderDrawsNothing();
        noWayIsNone();
        noWayComesBehindTheCodes();
        aWayThatComesAndGoes();
        toldOnTheGrid();
        sourceOnTheGrid();
        sourceOfEmptySlices();
        shiftOfNone();
        shiftRoundedDown();
        shiftOfTheGreatest();
        shiftWithoutWay();
        shiftInTheFreeMode();
        leastGridOfOneSlice();
        leastGridOfSixteen();
        leastGridOfThirtyTwo();
        leastGridOfNone();
        leastGridBelowThePresentOne();
        leastGridInTheFreeMode();
        nearTargetOfThePresentOne();
        nearTargetAtItsReach();
        nearTargetOnBothSides();
        nearTargetOfTheLeast();
        nearTargetOfTheGreatest();
        nearTargetOfNone();
        nearTargetInTheFreeMode();
        nearTargetOutOfReach();
        questionsLeaveEverything();
        checks.end();
    }

    private static void dueSteps(String when, LoopSlicer x, int... steps) {
        checks.due(when + ": told(3)", x.told(3), 1);
        checks.dueRow(when + ": step", slice -> x.slice(slice, 3), steps);
        checks.due(when + ": no more slices", x.slice(steps.length, 3), -1);
    }

    private static void dueBudgets(String when, LoopSlicer x, int... budgets) {
        checks.dueRow(when + ": budget", slice -> x.slice(slice, 2), budgets);
    }

    private static void dueNoWay(String when, LoopSlicer x) {
        checks.due(when + ": told(3)", x.told(3), 0);
        checks.due(when + ": shift()", x.shift(), -9);
        checks.due(when + ": slice(0, 3)", x.slice(0, 3), -9);
    }

    // "In the grid mode, with the grid G, the step i, from 0 to G, lies at the sample i * T / G.
    // Each mark is drawn to a step: the frame 0 to the step 0, each further mark to a greater step
    // than the mark before, which is less than G, and the end of the loop to the step G. A slice
    // gets the samples from the step of its mark to that of the next one (or of the end)."

    private static void oneStep() {
        LoopSlicer x = Made.onGrid(4, 7, 1);
        dueSteps("one step", x, 0);
        dueBudgets("one step", x, 7);
        checks.due("one step: shift()", x.shift(), 0);
        dueNoWay("two marks on one step", Made.onGrid(4, 7, 1, 2));
    }

    private static void thirtyTwoSteps() {
        LoopSlicer x = Made.onGrid(32, 32, 32, 1, 31);
        dueSteps("32 steps", x, 0, 1, 31);
        dueBudgets("32 steps", x, 1, 30, 1);
        checks.due("32 steps: shift()", x.shift(), 0);
    }

    private static void asManyStepsAsMarks() {
        LoopSlicer x = Made.onGrid(10, 12, 3, 1, 2);
        dueSteps("three marks on three steps", x, 0, 1, 2);
        dueBudgets("three marks on three steps", x, 4, 4, 4);
        dueNoWay("three marks on two steps", Made.onGrid(10, 12, 2, 1, 2));
    }

    private static void sixteenMarks() {
        LoopSlicer x = Made.withSixteen(16);
        x.set(7, 1);
        dueSteps("16 marks on 16 steps", x, 0, 1, 2, 3, 4, 5, 6, 7, 8, 9, 10, 11, 12, 13, 14, 15);
        checks.due("16 marks on 16 steps: shift()", x.shift(), 0);
        x.set(6, 32);
        dueSteps("16 marks on 32 steps", x,
                0, 2, 4, 6, 8, 10, 12, 14, 16, 18, 20, 22, 24, 26, 28, 30);
        x.set(6, 15);
        dueNoWay("16 marks on 15 steps", x);
        x.unmark(15);
        checks.due("15 marks on 15 steps: told(3)", x.told(3), 1);
        checks.due("15 marks on 15 steps: slice(14, 3)", x.slice(14, 3), 14);
    }

    private static void stepsLieAtSamplesRoundedDown() {
        // The steps lie at 0, 2.5, 5, 7.5 and 10.
        LoopSlicer x = Made.onGrid(4, 10, 4, 1, 2, 3);
        dueSteps("ten samples", x, 0, 1, 2, 3);
        dueBudgets("ten samples", x, 2, 3, 2, 3);
        checks.dueRow("ten samples: begin", slice -> x.slice(slice, 4), 0, 2, 5, 7);
    }

    private static void theFirstMarkStaysAtTheFirstStep() {
        // The mark 1 is due at 1.5 samples, next to the step 0, which is taken; 25 * 64 - 100 is
        // its shift.
        LoopSlicer x = Made.onGridWithin(10, 10, 1000, 100, 4, 64, 1);
        dueSteps("a mark near to the first one", x, 0, 1);
        dueBudgets("a mark near to the first one", x, 25, 75);
        checks.due("a mark near to the first one: shift()", x.shift(), 23);
    }

    private static void theLastMarkStaysBeforeTheLastStep() {
        // The mark 63 is due at 98.4 samples, next to the step 4, which is the end's.
        LoopSlicer x = Made.onGridWithin(10, 10, 1000, 100, 4, 64, 63);
        dueSteps("a mark near to the end", x, 0, 3);
        dueBudgets("a mark near to the end", x, 75, 25);
        checks.due("a mark near to the end: shift()", x.shift(), 23);
    }

    private static void noTwoMarksAtOneStep() {
        // Steps of two frames: the marks 9, 10 and 11 would all be drawn to the step 5.
        LoopSlicer x = Made.onGridWithin(10, 10, 1000, 200, 10, 20, 9, 10, 11);
        dueSteps("three marks near to a step", x, 0, 4, 5, 6);
        checks.due("three marks near to a step: shift()", x.shift(), 20);
        // Steps of four samples: both marks are due next to the step 3, where the slice between
        // them would have no sample, which its limits would let pass.
        LoopSlicer y = Made.onGrid(20, 20, 5, 11, 12);
        dueSteps("two marks near to a step", y, 0, 2, 3);
        checks.due("two marks near to a step: shift()", y.shift(), 3);
    }

    private static void theGreatestTarget() {
        LoopSlicer x = Made.onGridWithin(1000, 10, 1000, 200000, 32, 64, 2, 62);
        dueSteps("200000", x, 0, 1, 31);
        dueBudgets("200000", x, 6250, 187500, 6250);
        checks.due("200000: source(199999, 1)", x.source(199999, 1), 63999);
    }

    private static void stepsAtTheSameSample() {
        // The steps 0 to 3 lie at the sample 0, and the step 4 at 1.
        LoopSlicer x = Made.onGrid(4, 1, 4, 1);
        dueSteps("one sample", x, 0, 1);
        dueBudgets("one sample", x, 0, 1);
        checks.due("one sample: shift()", x.shift(), 0);
        // The steps 16 to 31 lie at the sample 1, where the mark is due.
        LoopSlicer y = Made.onGrid(2, 2, 32, 1);
        dueSteps("two samples", y, 0, 16);
        checks.due("two samples: shift()", y.shift(), 0);
    }

    // "Of all such ways, that one is taken for which the sum .. is least; of several, the one in
    // which the first mark that is drawn to different steps is drawn to the lesser one."

    private static void theLesserStepForTheFirstMark() {
        // The mark 5 is due at 50, between 40 and 60.
        LoopSlicer x = Made.onGridWithin(10, 10, 1000, 100, 5, 10, 5);
        dueSteps("between two steps", x, 0, 2);
        checks.due("between two steps: shift()", x.shift(), 10);
        // A sample less, and 59 is nearer to 49.5 than 39.
        x.set(5, 99);
        dueSteps("nearer to the greater one", x, 0, 3);
    }

    private static void theLesserStepForTheSecondMark() {
        LoopSlicer x = Made.onGridWithin(10, 10, 1000, 100, 5, 10, 2, 5);
        dueSteps("the second between two steps", x, 0, 1, 2);
        LoopSlicer y = Made.onGridWithin(10, 10, 1000, 100, 5, 10, 3, 7);
        dueSteps("both between two steps", y, 0, 1, 3);
        checks.due("both between two steps: shift()", y.shift(), 20);
    }

    private static void theLesserStepForTheFirstMarkThatDiffers() {
        // The marks are due at 35 and 45: 15 to 20 and 5 to 40 is as much as 5 to 40 and 15 to 60.
        LoopSlicer x = Made.onGridWithin(5, 10, 1000, 100, 5, 20, 7, 9);
        dueSteps("two ways for two marks", x, 0, 1, 2);
        checks.due("two ways for two marks: shift()", x.shift(), 20);
        // Behind a mark at 80 of 200 that differs in none of the ways, due at 135 and 145.
        LoopSlicer y = Made.onGridWithin(5, 10, 1000, 200, 10, 40, 16, 27, 29);
        dueSteps("two ways for the last marks", y, 0, 4, 6, 7);
        checks.due("two ways for the last marks: shift()", y.shift(), 20);
    }

    // "It must get at least n * least / 100 samples and at most n * greatest / 100 (both rounded
    // down, as told), where n is its length, and least and greatest are the limits of the warp."

    private static LoopSlicer oneSlice(int samples, int least, int greatest) {
        return Made.onGridWithin(samples, least, greatest, 1, 1, 1);
    }

    private static int laid(LoopSlicer x, int target) {
        x.set(5, target);
        return x.told(3);
    }

    private static void budgetsAtTheLeastLimit() {
        LoopSlicer x = oneSlice(10, 50, 200);
        checks.due("5 of 10 at 50: told(3)", laid(x, 5), 1);
        checks.due("4 of 10 at 50: told(3)", laid(x, 4), 0);
        LoopSlicer y = oneSlice(1000, 100, 200);
        checks.due("1000 of 1000 at 100: told(3)", laid(y, 1000), 1);
        checks.due("999 of 1000 at 100: told(3)", laid(y, 999), 0);
        LoopSlicer z = oneSlice(1000, 10, 200);
        checks.due("100 of 1000 at 10: told(3)", laid(z, 100), 1);
        checks.due("99 of 1000 at 10: told(3)", laid(z, 99), 0);
    }

    private static void budgetsAtTheGreatestLimit() {
        LoopSlicer x = oneSlice(10, 50, 200);
        checks.due("20 of 10 at 200: told(3)", laid(x, 20), 1);
        checks.due("21 of 10 at 200: told(3)", laid(x, 21), 0);
        LoopSlicer y = oneSlice(1000, 50, 100);
        checks.due("1000 of 1000 at 100: told(3)", laid(y, 1000), 1);
        checks.due("1001 of 1000 at 100: told(3)", laid(y, 1001), 0);
        LoopSlicer z = oneSlice(1000, 50, 1000);
        checks.due("10000 of 1000 at 1000: told(3)", laid(z, 10000), 1);
        checks.due("10001 of 1000 at 1000: told(3)", laid(z, 10001), 0);
    }

    private static void limitsRoundedDown() {
        // 7 * 50 / 100 = 3 and 7 * 250 / 100 = 17.
        LoopSlicer x = oneSlice(7, 50, 250);
        checks.due("3 of 7 at 50: told(3)", laid(x, 3), 1);
        checks.due("2 of 7 at 50: told(3)", laid(x, 2), 0);
        checks.due("17 of 7 at 250: told(3)", laid(x, 17), 1);
        checks.due("18 of 7 at 250: told(3)", laid(x, 18), 0);
        // 1 * 50 / 100 = 0 and 3 * 50 / 100 = 1: each slice has its own limits.
        LoopSlicer y = Made.onGridWithin(1, 50, 200, 1, 4, 4, 1);
        dueSteps("1 of 1 and 3 at 50", y, 0, 1);
        dueBudgets("1 of 1 and 3 at 50", y, 0, 1);
    }

    private static void emptySlicesWithinLimits() {
        // 9 * 10 / 100 = 0, but 10 * 10 / 100 = 1.
        LoopSlicer x = Made.onGridWithin(9, 10, 1000, 1, 2, 2, 1);
        dueBudgets("0 of 9 at 10", x, 0, 1);
        x.set(0, 10);
        dueNoWay("0 of 10 at 10", x);
    }

    private static void limitsForbidTheNearestStep() {
        // The mark is due at 19; the steps lie at 11 and 22, and the first slice may get 20.
        LoopSlicer x = Made.onGridWithin(10, 10, 200, 190, 17, 10, 1);
        dueSteps("at 200", x, 0, 1);
        dueBudgets("at 200", x, 11, 179);
        checks.due("at 200: shift()", x.shift(), 8);
        x.set(4, 219);
        dueSteps("at 219", x, 0, 1);
        x.set(4, 220);
        dueSteps("at 220", x, 0, 2);
        dueBudgets("at 220", x, 22, 168);
        checks.due("at 220: shift()", x.shift(), 3);
    }

    private static void limitsOfALaterSlice() {
        // The mark is due at 171, next to 167; the last slice may get 20 and so begins at 178.
        LoopSlicer x = Made.onGridWithin(10, 10, 200, 190, 17, 10, 9);
        dueSteps("at 200", x, 0, 16);
        dueBudgets("at 200", x, 178, 12);
        checks.due("at 200: shift()", x.shift(), 7);
        x.set(4, 230);
        dueSteps("at 230", x, 0, 15);
        dueBudgets("at 230", x, 167, 23);
        // The marks are due at 136 and 153; the short slices may get one step of ten samples each.
        LoopSlicer y = Made.onGridWithin(10, 10, 190, 170, 17, 10, 8, 9);
        dueSteps("two short slices at 190", y, 0, 15, 16);
        checks.due("two short slices at 190: shift()", y.shift(), 21);
        y.set(4, 200);
        dueSteps("two short slices at 200", y, 0, 14, 15);
        checks.due("two short slices at 200: shift()", y.shift(), 7);
    }

    private static void limitsLeaveNoWay() {
        // Slices of 10, 10, 30 and 10 samples may get 5 to 15 and 15 to 45.
        LoopSlicer x = Made.onGridWithin(10, 50, 150, 84, 12, 6, 1, 2, 5);
        dueSteps("seven samples a step", x, 0, 2, 4, 10);
        // Of steps of eight samples, they may get one, one, five and one, which is too few.
        x.set(5, 96);
        dueNoWay("eight samples a step", x);
        // Of steps of two samples, they must get three, three, eight and three, which is too many.
        x.set(5, 24);
        dueNoWay("two samples a step", x);
    }

    private static void theOrderDrawsNothing() {
        LoopSlicer x = Made.onGridWithin(10, 10, 1000, 100, 4, 10, 3, 9);
        dueSteps("in order", x, 0, 1, 3);
        x.reverse();
        dueSteps("reversed", x, 0, 1, 3);
        checks.dueRow("reversed: begin", slice -> x.slice(slice, 4), 75, 25, 0);
    }

    // "If there is no such way, the slices cannot be laid on the grid." "NONE for 2, 3, 4 and 6 if
    // the slices cannot be laid"; "4 .. (NONE if they cannot be laid); 5 .. (NONE likewise)";
    // "NONE, as a float, if the slices cannot be laid"

    private static LoopSlicer withoutWay() {
        LoopSlicer x = Made.onGrid(8, 16, 2, 2, 4);
        x.sound(5, 5, 77);
        x.swap(1, 2);
        return x;
    }

    private static void noWayIsNone() {
        LoopSlicer x = withoutWay();
        checks.dueRow("no way: told", x::told, 8, 8, 3, 0, -9, -9, 8, -1);
        checks.dueRow("no way: slice(0, ..)", what -> x.slice(0, what),
                0, 2, -9, -9, -9, 0, -9, 0, -1);
        checks.dueRow("no way: slice(2, ..)", what -> x.slice(2, what),
                4, 4, -9, -9, -9, 1, -9, 5, -1);
        checks.dueRow("no way: source(0, ..)", what -> x.source(0, what), -9, -9, -9, -1);
        checks.dueRow("no way: source(15, ..)", what -> x.source(15, what), -9, -9, -9, -1);
        checks.due("no way: warp(0)", x.warp(0), -9);
        checks.due("no way: warp(2)", x.warp(2), -9);
        checks.due("no way: shift()", x.shift(), -9);
    }

    private static void noWayComesBehindTheCodes() {
        LoopSlicer x = withoutWay();
        checks.due("no way: source(-1, 0)", x.source(-1, 0), -1);
        checks.due("no way: source(16, 0)", x.source(16, 0), -1);
        checks.due("no way: source(0, -1)", x.source(0, -1), -1);
        checks.due("no way: slice(-1, 2)", x.slice(-1, 2), -1);
        checks.due("no way: slice(3, 2)", x.slice(3, 2), -1);
        checks.due("no way: slice(0, -1)", x.slice(0, -1), -1);
        checks.due("no way: warp(-1)", x.warp(-1), -1);
        checks.due("no way: warp(3)", x.warp(3), -1);
        checks.due("no way: told(-1)", x.told(-1), -1);
        checks.due("no way: nearTarget(201)", x.nearTarget(201), -1);
        checks.due("no way: nearTarget(-1)", x.nearTarget(-1), -1);
    }

    private static void aWayThatComesAndGoes() {
        LoopSlicer x = withoutWay();
        x.set(6, 3);
        dueSteps("three steps", x, 0, 1, 2);
        x.undo();
        dueNoWay("two steps again", x);
        x.set(7, 0);
        dueBudgets("free", x, 4, 4, 8);
        checks.due("free: told(3)", x.told(3), 1);
        checks.due("free: slice(0, 3)", x.slice(0, 3), -9);
        x.set(7, 1);
        x.unmark(1);
        dueSteps("two marks", x, 0, 1);
    }

    private static void toldOnTheGrid() {
        // Whatever lies on the grid lies within the limits.
        LoopSlicer x = Made.onGridWithin(10, 50, 150, 84, 12, 6, 1, 2, 5);
        checks.due("laid: told(3)", x.told(3), 1);
        checks.due("laid: told(4)", x.told(4), 0);
        // Budgets of 14, 14, 42 and 14: fades of 3.
        checks.due("laid: told(5)", x.told(5), 12);
        x.set(7, 0);
        x.set(5, 93);
        // Shares of 15.5, 15.5, 46.5 and 15.5, two of which are rounded up.
        dueBudgets("free", x, 16, 16, 46, 15);
        checks.due("free: told(4)", x.told(4), 3);
    }

    private static void sourceOnTheGrid() {
        // Budgets of 25, 50 and 25 for lengths of 30, 60 and 10, in the order 2, 1, 0.
        LoopSlicer x = Made.onGridWithin(10, 10, 1000, 100, 4, 10, 3, 9);
        x.reverse();
        checks.dueRow("source(0, ..)", what -> x.source(0, what), 2, 90, 0, -1);
        checks.dueRow("source(24, ..)", what -> x.source(24, what), 2, 99, 1, -1);
        checks.dueRow("source(25, ..)", what -> x.source(25, what), 1, 30, 0, -1);
        checks.dueRow("source(74, ..)", what -> x.source(74, what), 1, 88, 1, -1);
        checks.dueRow("source(75, ..)", what -> x.source(75, what), 0, 0, 0, -1);
        checks.dueRow("source(93, ..)", what -> x.source(93, what), 0, 21, 0, -1);
        checks.dueRow("source(94, ..)", what -> x.source(94, what), 0, 22, 1, -1);
        checks.dueRow("source(99, ..)", what -> x.source(99, what), 0, 28, 1, -1);
        checks.dueRow("source(100, ..)", what -> x.source(100, what), -1, -1, -1, -1);
    }

    private static void sourceOfEmptySlices() {
        LoopSlicer x = Made.onGrid(4, 1, 4, 1);
        checks.dueRow("one sample: source(0, ..)", what -> x.source(0, what), 1, 1, 0, -1);
        checks.due("one sample: slice(0, 4)", x.slice(0, 4), 0);
        checks.due("one sample: slice(1, 4)", x.slice(1, 4), 0);
        checks.due("one sample: slice(0, 6)", x.slice(0, 6), 0);
        checks.due("one sample: warp(0)", x.warp(0), 0);
        checks.due("one sample: warp(1)", x.warp(1), 1f / 3f);
        x.reverse();
        checks.due("one sample, reversed: slice(0, 4)", x.slice(0, 4), 1);
        checks.due("one sample, reversed: source(0, 0)", x.source(0, 0), 1);
    }

    // Promise 19: "Returns the sum that is the least one on the grid, as described above, divided
    // by F. Returns the sum; NONE if the slices cannot be laid on the grid (whatever the mode is)."

    private static void shiftOfNone() {
        checks.due("one slice: shift()", Made.onGrid(64, 100, 32).shift(), 0);
        checks.due("marks on steps: shift()", Made.onGrid(8, 16, 8, 1, 4, 7).shift(), 0);
    }

    private static void shiftRoundedDown() {
        // The mark is due at 3.33, and drawn to 5: 5 * 3 - 1 * 10 = 5.
        checks.due("5 over 3: shift()", Made.onGrid(3, 10, 2, 1).shift(), 1);
        // It is due at 0.67, and drawn to 1: 1 * 3 - 1 * 2 = 1.
        checks.due("1 over 3: shift()", Made.onGrid(3, 2, 2, 1).shift(), 0);
        // Both marks together are divided: 5 + 4 and not 5 / 6 + 4 / 6.
        LoopSlicer x = Made.onGrid(6, 7, 3, 1, 4);
        dueSteps("two marks", x, 0, 1, 2);
        checks.due("5 + 4 over 6: shift()", x.shift(), 1);
    }

    private static void shiftOfTheGreatest() {
        // Each short slice may get one step of 10000 samples at most, and is due far behind it.
        LoopSlicer x = Made.onGridWithin(1000, 10, 1000, 200000, 20, 64,
                49, 50, 51, 52, 53, 54, 55, 56, 57, 58, 59, 60, 61, 62, 63);
        dueSteps("crowded", x, 0, 5, 6, 7, 8, 9, 10, 11, 12, 13, 14, 15, 16, 17, 18, 19);
        checks.due("crowded: shift()", x.shift(), 825000);
    }

    private static void shiftWithoutWay() {
        LoopSlicer x = Made.onGrid(8, 16, 2, 2, 4);
        checks.due("too few steps: shift()", x.shift(), -9);
        LoopSlicer y = oneSlice(10, 50, 200);
        y.set(5, 21);
        checks.due("beyond the limits: shift()", y.shift(), -9);
    }

    private static void shiftInTheFreeMode() {
        LoopSlicer x = Made.onGridWithin(10, 10, 1000, 100, 4, 10, 3, 9);
        checks.due("grid: shift()", x.shift(), 20);
        x.set(7, 0);
        checks.due("free: shift()", x.shift(), 20);
        x.set(6, 2);
        checks.due("free, without a way: shift()", x.shift(), -9);
    }

    // Promise 20: "Finds the least grid on which the slices can be laid, whatever the mode is.
    // Returns the grid, 1 to 32; NONE if there is none."

    private static LoopSlicer exactly(int frames, int grid, int... marks) {
        return Made.onGridWithin(100, 100, 100, frames * 100, grid, frames, marks);
    }

    private static void leastGridOfOneSlice() {
        checks.due("one slice: leastGrid()", exactly(64, 32).leastGrid(), 1);
        checks.due("one frame: leastGrid()", exactly(1, 1).leastGrid(), 1);
    }

    private static void leastGridOfSixteen() {
        LoopSlicer x = Made.withSixteen(16);
        checks.due("16 slices: leastGrid()", x.leastGrid(), 16);
        x.unmark(15);
        checks.due("15 slices: leastGrid()", x.leastGrid(), 15);
        LoopSlicer y = Made.withSixteen(17);
        y.set(5, 1700);
        y.set(3, 100);
        y.set(4, 100);
        checks.due("16 slices of 17 frames: leastGrid()", y.leastGrid(), 17);
    }

    private static void leastGridOfThirtyTwo() {
        checks.due("a 32nd: leastGrid()", exactly(32, 1, 1).leastGrid(), 32);
        checks.due("a 31st: leastGrid()", exactly(31, 1, 1).leastGrid(), 31);
        checks.due("31 of 32: leastGrid()", exactly(32, 32, 31).leastGrid(), 32);
    }

    private static void leastGridOfNone() {
        checks.due("a 33rd: leastGrid()", exactly(33, 32, 1).leastGrid(), -9);
        checks.due("a 64th: leastGrid()", exactly(64, 32, 63).leastGrid(), -9);
        LoopSlicer x = oneSlice(10, 50, 200);
        x.set(5, 20);
        checks.due("the greatest budget: leastGrid()", x.leastGrid(), 1);
        x.set(5, 21);
        checks.due("beyond the limits: leastGrid()", x.leastGrid(), -9);
    }

    private static void leastGridBelowThePresentOne() {
        // Halves can be laid on two steps, but not on three.
        LoopSlicer x = exactly(2, 3, 1);
        checks.due("three steps: told(3)", x.told(3), 0);
        checks.due("three steps: leastGrid()", x.leastGrid(), 2);
        x.set(6, 32);
        checks.due("32 steps: told(3)", x.told(3), 1);
        checks.due("32 steps: leastGrid()", x.leastGrid(), 2);
        x.set(6, 1);
        checks.due("one step: leastGrid()", x.leastGrid(), 2);
    }

    private static void leastGridInTheFreeMode() {
        LoopSlicer x = exactly(12, 1, 3, 4);
        x.set(7, 0);
        checks.due("free: leastGrid()", x.leastGrid(), 12);
        x.set(5, 1201);
        checks.due("free, without a way: leastGrid()", x.leastGrid(), -9);
    }

    // Promise 21: "Finds a target near to the present one with which the slices can be laid on the
    // grid, whatever the mode is: the one that differs least (the present one, if they can be laid
    // with it), of two the lesser one. reach: how far from the present one it can be, 0 to 200.
    // Returns the target, from 1 to 200000; NONE if there is none; BAD if reach is out of range."

    private static int near(LoopSlicer x, int target, int reach) {
        x.set(5, target);
        return x.nearTarget(reach);
    }

    private static void nearTargetOfThePresentOne() {
        LoopSlicer x = oneSlice(100, 90, 110);
        checks.due("90: nearTarget(0)", near(x, 90, 0), 90);
        checks.due("90: nearTarget(200)", near(x, 90, 200), 90);
        checks.due("100: nearTarget(200)", near(x, 100, 200), 100);
        checks.due("110: nearTarget(0)", near(x, 110, 0), 110);
        checks.due("89: nearTarget(0)", near(x, 89, 0), -9);
        checks.due("111: nearTarget(0)", near(x, 111, 0), -9);
    }

    private static void nearTargetAtItsReach() {
        LoopSlicer x = oneSlice(300, 100, 100);
        checks.due("301: nearTarget(1)", near(x, 301, 1), 300);
        checks.due("302: nearTarget(1)", near(x, 302, 1), -9);
        checks.due("299: nearTarget(1)", near(x, 299, 1), 300);
        checks.due("298: nearTarget(1)", near(x, 298, 1), -9);
        checks.due("500: nearTarget(200)", near(x, 500, 200), 300);
        checks.due("501: nearTarget(200)", near(x, 501, 200), -9);
        checks.due("500: nearTarget(199)", near(x, 500, 199), -9);
        checks.due("100: nearTarget(200)", near(x, 100, 200), 300);
        checks.due("99: nearTarget(200)", near(x, 99, 200), -9);
        checks.due("100: nearTarget(199)", near(x, 100, 199), -9);
    }

    private static void nearTargetOnBothSides() {
        // The third slice must have 10 samples, as the third of five steps has with the targets 47
        // and 49; with 48 it has 9.
        LoopSlicer x = Made.onGrid(47, 48, 5, 9, 18, 28, 37);
        x.set(3, 100);
        checks.due("47: told(3)", laid(x, 47), 1);
        checks.due("49: told(3)", laid(x, 49), 1);
        checks.due("48: told(3)", laid(x, 48), 0);
        checks.due("48: nearTarget(0)", near(x, 48, 0), -9);
        checks.due("48: nearTarget(1)", near(x, 48, 1), 47);
        checks.due("48: nearTarget(200)", near(x, 48, 200), 47);
        checks.due("46: nearTarget(1)", near(x, 46, 1), 47);
        checks.due("49: nearTarget(1)", near(x, 49, 1), 49);
    }

    private static void nearTargetOfTheLeast() {
        LoopSlicer x = oneSlice(1, 100, 100);
        checks.due("1: nearTarget(0)", near(x, 1, 0), 1);
        checks.due("2: nearTarget(1)", near(x, 2, 1), 1);
        checks.due("2: nearTarget(200)", near(x, 2, 200), 1);
        checks.due("201: nearTarget(200)", near(x, 201, 200), 1);
        checks.due("202: nearTarget(200)", near(x, 202, 200), -9);
        // No target is less than 1, though an empty slice of one sample would be within its limits.
        LoopSlicer y = oneSlice(2, 100, 100);
        checks.due("1: nearTarget(0)", near(y, 1, 0), -9);
        checks.due("1: nearTarget(1)", near(y, 1, 1), 2);
        checks.due("1: nearTarget(200)", near(y, 1, 200), 2);
    }

    private static void nearTargetOfTheGreatest() {
        LoopSlicer x = Made.onGridWithin(1000, 10, 1000, 200000, 1, 20);
        checks.due("200000: nearTarget(0)", near(x, 200000, 0), 200000);
        checks.due("200000: nearTarget(200)", near(x, 200000, 200), 200000);
        x.set(4, 999);
        checks.due("of 199800: nearTarget(199)", near(x, 200000, 199), -9);
        checks.due("of 199800: nearTarget(200)", near(x, 200000, 200), 199800);
        // The first of five steps must have 40000 samples, as it first has with 200000.
        LoopSlicer y = Made.onGridWithin(1000, 100, 1000, 199900, 5, 64, 40, 46, 52, 58);
        checks.due("199900: nearTarget(99)", near(y, 199900, 99), -9);
        checks.due("199900: nearTarget(100)", near(y, 199900, 100), 200000);
        checks.due("199900: nearTarget(200)", near(y, 199900, 200), 200000);
        // The last one must have 40001 of them, as it would have with 200001, which is no target.
        LoopSlicer z = Made.onGridWithin(947, 96, 1000, 200000, 5, 64, 5, 10, 15, 20);
        checks.due("beyond 200000: nearTarget(1)", near(z, 200000, 1), -9);
        checks.due("beyond 200000: nearTarget(200)", near(z, 200000, 200), -9);
        z.set(3, 95);
        checks.due("within 200000: nearTarget(1)", near(z, 200000, 1), 200000);
    }

    private static void nearTargetOfNone() {
        LoopSlicer x = Made.onGrid(8, 100, 2, 2, 4);
        checks.due("too few steps: nearTarget(200)", x.nearTarget(200), -9);
        x.set(6, 3);
        x.set(5, 16);
        checks.due("three steps: nearTarget(0)", x.nearTarget(0), 16);
    }

    private static void nearTargetInTheFreeMode() {
        LoopSlicer x = oneSlice(300, 100, 100);
        x.set(7, 0);
        checks.due("free: nearTarget(199)", near(x, 500, 199), -9);
        checks.due("free: nearTarget(200)", near(x, 500, 200), 300);
        checks.due("free: nearTarget(0)", near(x, 500, 0), -9);
    }

    private static void nearTargetOutOfReach() {
        LoopSlicer x = oneSlice(1, 100, 100);
        checks.due("nearTarget(0)", x.nearTarget(0), 1);
        checks.due("nearTarget(200)", x.nearTarget(200), 1);
        checks.due("nearTarget(-1)", x.nearTarget(-1), -1);
        checks.due("nearTarget(201)", x.nearTarget(201), -1);
        checks.due("nearTarget(least int)", x.nearTarget(Integer.MIN_VALUE), -1);
        checks.due("nearTarget(greatest int)", x.nearTarget(Integer.MAX_VALUE), -1);
    }

    private static void questionsLeaveEverything() {
        LoopSlicer x = Made.onGridWithin(10, 10, 200, 190, 17, 10, 1, 5);
        x.reverse();
        String due = Picture.ofAll(x);
        x.nearTarget(200);
        x.leastGrid();
        x.shift();
        checks.dueText("asked: the answers", Picture.ofAll(x), due);
    }
}
