/** Promises 19 to 21, and 12, 15, 17 and 18 in the grid mode: shift, leastGrid, nearTarget. */
final class GridTest {
    private static final Checks checks = new Checks();

    public static void main(String[] args) {
        drawsToSteps();
        drawsToTheLesserStep();
        needsSteps();
        drawsSixteen();
        keepsLimits();
        cannotBeLaid();
        shiftInAnyMode();
        leastGrids();
        nearTargets();
        nearTargetAtItsEnds();
        wrongReaches();
        everyWay();
        checks.end();
    }

    private static void dueSlices(String when, LoopSlicer x, int what, int... due) {
        for (int slice = 0; slice < due.length; slice++) {
            String call = when + ": slice(" + slice + ", " + what + ")";
            checks.due(call, x.slice(slice, what), due[slice]);
        }
    }

    private static void drawsToSteps() {
        // The steps 0 to 4 lie at the samples 0, 25, 50, 75 and 100; the marks are due at
        // 0, 30 and 90, and no mark may have the step of the end.
        LoopSlicer x = Made.onGrid(10, 100, 4, 3, 9);
        x.set(0, 10);
        checks.due("told(3)", x.told(3), 1);
        checks.due("told(4)", x.told(4), 0);
        dueSlices("steps", x, 3, 0, 1, 3);
        dueSlices("budgets", x, 2, 25, 50, 25);
        checks.due("shift()", x.shift(), 5 + 15);
        checks.due("told(5)", x.told(5), 6 * 3);
        checks.due("warp(0)", x.warp(0), 25f / 30f);
        x.reverse();
        dueSlices("begins", x, 4, 75, 25, 0);
        dueSlices("the order does not matter", x, 3, 0, 1, 3);
        checks.due("source(25, 0)", x.source(25, 0), 1);
        checks.due("source(25, 1)", x.source(25, 1), 30);
        checks.due("source(99, 1)", x.source(99, 1), 28);
        checks.due("source(99, 2)", x.source(99, 2), 1);
        checks.due("source(93, 2)", x.source(93, 2), 0);
        // Steps round down: 10 * 1 / 3 and 10 * 2 / 3.
        x = Made.onGrid(10, 10, 3, 3, 6);
        dueSlices("thirds", x, 2, 3, 3, 4);
        dueSlices("thirds", x, 3, 0, 1, 2);
        checks.due("thirds: shift()", x.shift(), 0);
    }

    private static void drawsToTheLesserStep() {
        // The mark is due at 50, between the steps at 40 and 60.
        LoopSlicer x = Made.onGrid(10, 100, 5, 5);
        x.set(0, 10);
        dueSlices("between", x, 3, 0, 2);
        checks.due("between: shift()", x.shift(), 10);
        // The marks are due at 50 and 60; 20 or 40 for the first makes no less than 40 and 60.
        x = Made.onGrid(10, 100, 5, 5, 6);
        x.set(0, 10);
        dueSlices("two", x, 3, 0, 2, 3);
        checks.due("two: shift()", x.shift(), 10);
        // The marks 1, 2 and 3 of 6 are due at 2, 4 and 6 of 12; a grid of 4 leaves one way.
        x = Made.onGrid(6, 12, 4, 1, 2, 3);
        dueSlices("one way", x, 3, 0, 1, 2, 3);
        checks.due("one way: shift()", x.shift(), 1 + 2 + 3);
    }

    private static void needsSteps() {
        LoopSlicer x = Made.onGrid(8, 16, 2, 2, 4);
        checks.due("three slices on two steps: told(3)", x.told(3), 0);
        checks.due("leastGrid()", x.leastGrid(), 3);
        x.set(6, 3);
        checks.due("three steps: told(3)", x.told(3), 1);
        x.set(6, 1);
        x.unmark(1);
        x.unmark(1);
        checks.due("one step: told(3)", x.told(3), 1);
        dueSlices("one step", x, 2, 16);
        checks.due("one step: shift()", x.shift(), 0);
    }

    private static void drawsSixteen() {
        int[] marks = new int[15];
        for (int i = 0; i < 15; i++) {
            marks[i] = i + 1;
        }
        LoopSlicer x = Made.onGrid(17, 170, 32, marks);
        x.set(0, 10);
        checks.due("16 marks: told(2)", x.told(2), 16);
        checks.due("16 marks on 32 steps: told(3)", x.told(3), 1);
        // The marks are due at 10, 20 and so on; two steps are 10 samples and five eighths.
        for (int mark = 0; mark < 16; mark++) {
            int step = nearestStep(mark * 10);
            checks.due("16 marks: slice(" + mark + ", 3)", x.slice(mark, 3), step);
        }
        checks.due("16 marks: source(169, 0)", x.source(169, 0), 15);
        x.set(7, 0);
        dueSlices("16 marks, free", x, 2, 10, 10, 10, 10, 10, 10, 10, 10, 10, 10, 10, 10, 10, 10,
                10, 20);
        x.set(7, 1);
        x.set(6, 16);
        for (int mark = 0; mark < 16; mark++) {
            checks.due("as many steps: slice(" + mark + ", 3)", x.slice(mark, 3), mark);
        }
        checks.due("as many steps: slice(15, 2)", x.slice(15, 2), 170 - 15 * 170 / 16);
        checks.due("as many steps: leastGrid()", x.leastGrid(), 16);
        x.set(6, 15);
        checks.due("too few steps: told(3)", x.told(3), 0);
    }

    private static int nearestStep(int sample) {
        int nearest = 0;
        for (int step = 1; step < 32; step++) {
            int distance = Math.abs(step * 170 / 32 - sample);
            nearest = distance < Math.abs(nearest * 170 / 32 - sample) ? step : nearest;
        }
        return nearest;
    }

    private static void keepsLimits() {
        // Slices of 10 and 30 samples on steps of 10.
        LoopSlicer x = Made.onGrid(4, 40, 4, 1);
        x.set(0, 10);
        dueSlices("wide", x, 3, 0, 1);
        x.set(3, 100);
        x.set(4, 100);
        dueSlices("exact", x, 3, 0, 1);
        x.set(5, 41);
        checks.due("41 at 100: told(3)", x.told(3), 0);
        // 10 * 110 / 100 = 11 and 30 * 110 / 100 = 33.
        x.set(4, 110);
        checks.due("41 at 110: told(3)", x.told(3), 1);
        dueSlices("41 at 110", x, 2, 10, 31);
        x.set(5, 44);
        dueSlices("44 at 110", x, 2, 11, 33);
        x.set(5, 45);
        checks.due("45 at 110: told(3)", x.told(3), 0);
        // 10 * 95 / 100 = 9 and 30 * 95 / 100 = 28.
        x.set(3, 95);
        x.set(5, 37);
        dueSlices("37 at 95", x, 2, 9, 28);
        x.set(5, 36);
        checks.due("36 at 95: told(3)", x.told(3), 0);
        x.set(3, 90);
        dueSlices("36 at 90", x, 2, 9, 27);
    }

    private static void cannotBeLaid() {
        LoopSlicer x = Made.onGrid(8, 16, 2, 2, 4);
        checks.due("told(3)", x.told(3), 0);
        checks.due("told(4)", x.told(4), -9);
        checks.due("told(5)", x.told(5), -9);
        int[] due = {2, 2, -9, -9, -9, 1, -9, 2};
        for (int what = 0; what < due.length; what++) {
            checks.due("slice(1, " + what + ")", x.slice(1, what), due[what]);
        }
        for (int what = 0; what < 3; what++) {
            checks.due("source(0, " + what + ")", x.source(0, what), -9);
        }
        checks.due("warp(0)", x.warp(0), -9);
        checks.due("shift()", x.shift(), -9);
        // An error code comes before the value for none.
        checks.due("source(16, 0)", x.source(16, 0), -1);
        checks.due("source(0, 3)", x.source(0, 3), -1);
        checks.due("slice(3, 2)", x.slice(3, 2), -1);
        checks.due("slice(0, 8)", x.slice(0, 8), -1);
        checks.due("warp(3)", x.warp(3), -1);
        x.set(7, 0);
        checks.due("free: told(3)", x.told(3), 1);
        checks.due("free: slice(1, 3)", x.slice(1, 3), -9);
        dueSlices("free", x, 2, 4, 4, 8);
    }

    private static void shiftInAnyMode() {
        LoopSlicer x = Made.onGrid(10, 100, 4, 3, 9);
        x.set(0, 10);
        x.set(7, 0);
        checks.due("free: shift()", x.shift(), 20);
        x.set(6, 2);
        checks.due("free on two steps: shift()", x.shift(), -9);
        // The sum is divided, and rounded down.
        x = Made.onGrid(3, 2, 2, 1);
        checks.due("1 * 3 - 1 * 2 over 3: shift()", x.shift(), 0);
        x = Made.onGrid(3, 10, 2, 1);
        checks.due("5 * 3 - 1 * 10 over 3: shift()", x.shift(), 1);
    }

    private static void leastGrids() {
        LoopSlicer x = Made.onGrid(16, 1600, 16, 4, 8);
        x.set(0, 100);
        x.set(3, 100);
        x.set(4, 100);
        checks.due("fourths: leastGrid()", x.leastGrid(), 4);
        x.moveMark(1, 1);
        checks.due("sixteenths: leastGrid()", x.leastGrid(), 16);
        x.set(7, 0);
        x.set(6, 1);
        checks.due("in any mode: leastGrid()", x.leastGrid(), 16);
        checks.due("it stays: setting(6)", x.setting(6), 1);
        x.begin(32);
        x.set(5, 3200);
        x.mark(1);
        checks.due("leastGrid() of 32", x.leastGrid(), 32);
        x.begin(64);
        x.set(5, 6400);
        x.mark(1);
        checks.due("none: leastGrid()", x.leastGrid(), -9);
        x.unmark(1);
        checks.due("one slice: leastGrid()", x.leastGrid(), 1);
    }

    private static void nearTargets() {
        // Exactly a loop of 100 samples can be laid.
        LoopSlicer x = Made.onGrid(10, 100, 10, 5);
        x.set(0, 10);
        x.set(3, 100);
        x.set(4, 100);
        checks.due("nearTarget(0)", x.nearTarget(0), 100);
        x.set(5, 103);
        checks.due("103: nearTarget(2)", x.nearTarget(2), -9);
        checks.due("103: nearTarget(3)", x.nearTarget(3), 100);
        checks.due("103: nearTarget(200)", x.nearTarget(200), 100);
        x.set(5, 300);
        checks.due("300: nearTarget(199)", x.nearTarget(199), -9);
        checks.due("300: nearTarget(200)", x.nearTarget(200), 100);
        x.set(5, 1);
        checks.due("1: nearTarget(98)", x.nearTarget(98), -9);
        checks.due("1: nearTarget(99)", x.nearTarget(99), 100);
        x.set(7, 0);
        checks.due("free: nearTarget(99)", x.nearTarget(99), 100);
        checks.due("it stays: setting(5)", x.setting(5), 1);
        x.set(6, 1);
        checks.due("two slices on one step: nearTarget(200)", x.nearTarget(200), -9);
    }

    private static void nearTargetAtItsEnds() {
        LoopSlicer x = Made.onGrid(3, 34, 3, 1, 2);
        x.set(0, 10);
        x.set(3, 100);
        x.set(4, 110);
        // Each slice gets 10 or 11: the targets 30 to 33.
        checks.due("34: nearTarget(1)", x.nearTarget(1), 33);
        x.set(5, 29);
        checks.due("29: nearTarget(1)", x.nearTarget(1), 30);
        x = Made.onGrid(64, 200000, 1);
        x.set(0, 1000);
        checks.due("200000: nearTarget(0)", x.nearTarget(0), 200000);
        // 64000 * 312 / 100 = 199680 is the most then.
        x.set(4, 312);
        checks.due("200000: nearTarget(200)", x.nearTarget(200), -9);
        x.set(5, 199800);
        checks.due("199800: nearTarget(200)", x.nearTarget(200), 199680);
        // The first of five steps must have 40000 samples, as it first has with 200000.
        x = Made.onGrid(64, 199900, 5, 40, 46, 52, 58);
        x.set(0, 1000);
        x.set(3, 100);
        checks.due("199900: nearTarget(99)", x.nearTarget(99), -9);
        checks.due("199900: nearTarget(100)", x.nearTarget(100), 200000);
        // One sample that must not be stretched can be laid with the least target of all.
        x = Made.onGrid(1, 12, 1);
        x.set(4, 100);
        checks.due("12: nearTarget(10)", x.nearTarget(10), -9);
        checks.due("12: nearTarget(11)", x.nearTarget(11), 1);
        // The third of five steps must have 44000 * 91 / 100 = 40040 samples at least, as many
        // as it would have with a target of 200200, which is none.
        x = Made.onGrid(64, 200000, 5, 5, 10, 54, 59);
        x.set(0, 1000);
        x.set(3, 91);
        checks.due("no target beyond 200000", x.nearTarget(200), -9);
        x.set(3, 90);
        checks.due("200000 can be laid", x.nearTarget(200), 200000);
        // The third of five steps has 10 samples with the targets 47 and 49, but 9 with 48.
        x = Made.onGrid(47, 48, 5, 9, 18, 28, 37);
        x.set(3, 100);
        checks.due("48: told(3)", x.told(3), 0);
        checks.due("48: nearTarget(0)", x.nearTarget(0), -9);
        checks.due("of two the lesser one", x.nearTarget(1), 47);
        checks.due("of two the lesser one, farther", x.nearTarget(9), 47);
        x.set(5, 49);
        checks.due("49 can be laid", x.nearTarget(9), 49);
    }

    private static void wrongReaches() {
        LoopSlicer x = new LoopSlicer();
        int[] wrong = {-1, 201, Integer.MIN_VALUE, Integer.MAX_VALUE};
        for (int reach : wrong) {
            checks.due("nearTarget(" + reach + ")", x.nearTarget(reach), -1);
        }
    }

    /** Compares with the best of all ways, one after the other, on small grids. */
    private static void everyWay() {
        checks.seed(1);
        for (int run = 0; run < 3000 && !checks.failed(); run++) {
            int frames = checks.pick(1, 12);
            int samples = checks.pick(1, 5);
            int grid = checks.pick(1, 9);
            int target = Math.max(1, frames * samples * checks.pick(40, 220) / 100);
            LoopSlicer x = Made.onGrid(frames, target, grid);
            x.set(0, samples);
            x.set(3, checks.pick(10, 100));
            x.set(4, checks.pick(100, 300));
            for (int frame = 1; frame < frames; frame++) {
                if (checks.pick(0, 3) == 0) {
                    x.mark(frame);
                }
            }
            compare("run " + run, x);
        }
    }

    private static void compare(String run, LoopSlicer x) {
        int marks = x.told(2);
        Ways ways = new Ways(x);
        ways.draw(1);
        checks.due(run + ": told(3)", x.told(3), ways.best < 0 ? 0 : 1);
        checks.due(run + ": shift()", x.shift(), ways.best < 0 ? -9 : ways.best / x.told(0));
        for (int mark = 0; mark < marks; mark++) {
            int due = ways.best < 0 ? -9 : ways.bestSteps[mark];
            checks.due(run + ": slice(" + mark + ", 3)", x.slice(mark, 3), due);
            int budget = ways.best < 0 ? -9 : ways.at(ways.bestSteps[mark + 1]) - ways.at(due);
            checks.due(run + ": slice(" + mark + ", 2)", x.slice(mark, 2), budget);
        }
    }

    /** Tries every way to draw the marks, lesser steps first. */
    private static final class Ways {
        final int frames;
        final int target;
        final int grid;
        final int least;
        final int greatest;
        final int marks;
        final int[] markFrames;
        final int[] lengths;
        final int[] steps;
        int[] bestSteps;
        int best = -1;

        /** Asks for all it needs at once, since an object answers 512 calls and no more. */
        Ways(LoopSlicer x) {
            frames = x.told(0);
            target = x.setting(5);
            grid = x.setting(6);
            least = x.setting(3);
            greatest = x.setting(4);
            marks = x.told(2);
            markFrames = new int[marks];
            lengths = new int[marks];
            for (int mark = 0; mark < marks; mark++) {
                markFrames[mark] = x.slice(mark, 0);
                lengths[mark] = x.slice(mark, 1);
            }
            steps = new int[marks + 1];
            steps[marks] = grid;
        }

        int at(int step) {
            return step * target / grid;
        }

        void draw(int mark) {
            if (mark >= marks) {
                judge();
                return;
            }
            for (int step = steps[mark - 1] + 1; step < grid; step++) {
                steps[mark] = step;
                draw(mark + 1);
            }
        }

        void judge() {
            int sum = 0;
            for (int mark = 0; mark < marks; mark++) {
                int budget = at(steps[mark + 1]) - at(steps[mark]);
                int length = lengths[mark];
                if (budget < length * least / 100 || budget > length * greatest / 100) {
                    return;
                }
                sum += Math.abs(at(steps[mark]) * frames - markFrames[mark] * target);
            }
            if (best < 0 || sum < best) {
                best = sum;
                bestSteps = steps.clone();
            }
        }
    }
}
