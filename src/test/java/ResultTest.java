/** Promises 12, 15, 17 and 18 in the free mode: told, slice, source, warp. */
final class ResultTest {
    private static final Checks checks = new Checks();

    public static void main(String[] args) {
        tellsTheLoop();
        sharesByRemainders();
        sharesEqualRemainders();
        sharesTheLargest();
        countsBeyondLimits();
        fades();
        fadesOfOne();
        loudest();
        beginsByOrder();
        sources();
        sourcesOfEmptySlices();
        warps();
        refuses();
        checks.end();
    }

    private static LoopSlicer ofThree(int frames, int one, int other) {
        LoopSlicer x = new LoopSlicer();
        x.begin(frames);
        x.mark(one);
        x.mark(other);
        return x;
    }

    private static void dueSlices(String when, LoopSlicer x, int what, int... due) {
        for (int slice = 0; slice < due.length; slice++) {
            String call = when + ": slice(" + slice + ", " + what + ")";
            checks.due(call, x.slice(slice, what), due[slice]);
        }
    }

    private static void tellsTheLoop() {
        LoopSlicer x = ofThree(10, 3, 9);
        checks.due("told(0)", x.told(0), 10);
        checks.due("told(1)", x.told(1), 1000);
        checks.due("told(2)", x.told(2), 3);
        checks.due("told(3)", x.told(3), 1);
        checks.due("told(6)", x.told(6), 3);
        x.set(0, 7);
        checks.due("told(1)", x.told(1), 70);
        dueSlices("marks", x, 0, 0, 3, 9);
        dueSlices("lengths", x, 1, 21, 42, 7);
        dueSlices("steps in the free mode", x, 3, -9, -9, -9);
        dueSlices("places", x, 5, 0, 1, 2);
        x.set(5, 1);
        checks.due("free: told(3)", x.told(3), 1);
    }

    private static void sharesByRemainders() {
        // 700, 200 and 100 of 1000 samples; 13 gives 9.1, 2.6 and 1.3.
        LoopSlicer x = ofThree(10, 7, 9);
        x.set(5, 13);
        dueSlices("13", x, 2, 9, 3, 1);
        // 15 gives 10.5, 3.0 and 1.5: of the equal remainders the lower number wins.
        x.set(5, 15);
        dueSlices("15", x, 2, 11, 3, 1);
        // 17 gives 11.9, 3.4 and 1.7: two are left.
        x.set(5, 17);
        dueSlices("17", x, 2, 12, 3, 2);
        x.reverse();
        dueSlices("the order does not matter", x, 2, 12, 3, 2);
    }

    private static void sharesEqualRemainders() {
        LoopSlicer x = ofThree(9, 3, 6);
        x.set(5, 1);
        dueSlices("1", x, 2, 1, 0, 0);
        x.set(5, 2);
        dueSlices("2", x, 2, 1, 1, 0);
        x.set(5, 3);
        dueSlices("3", x, 2, 1, 1, 1);
    }

    private static void sharesTheLargest() {
        LoopSlicer x = new LoopSlicer();
        x.begin(64);
        x.set(0, 1000);
        x.set(5, 199999);
        x.mark(63);
        dueSlices("199999", x, 2, 196874, 3125);
        checks.due("source(196873, 1)", x.source(196873, 1), 62999);
        checks.due("source(199998, 1)", x.source(199998, 1), 63999);
        checks.due("source(199999, 1)", x.source(199999, 1), -1);
    }

    private static void countsBeyondLimits() {
        // The slices have 3 and 6 samples, and so 1 to 6 and 3 to 12 within the limits.
        LoopSlicer x = new LoopSlicer();
        x.begin(3);
        x.set(0, 3);
        x.mark(1);
        int[][] due = {{1, 2}, {2, 1}, {3, 1}, {4, 0}, {5, 0}, {18, 0}, {19, 1}, {20, 2}};
        for (int[] d : due) {
            x.set(5, d[0]);
            checks.due("target " + d[0] + ": told(4)", x.told(4), d[1]);
            checks.due("target " + d[0] + ": told(3)", x.told(3), 1);
        }
        x.set(3, 100);
        x.set(4, 100);
        int[][] exact = {{8, 1}, {9, 0}, {10, 1}, {30, 2}};
        for (int[] e : exact) {
            x.set(5, e[0]);
            checks.due("target " + e[0] + " at 100: told(4)", x.told(4), e[1]);
        }
    }

    private static void fades() {
        // Budgets of 100, 40 and 20: fourths of 25, 10 and 5.
        LoopSlicer x = ofThree(16, 10, 14);
        x.set(5, 160);
        dueSlices("budgets", x, 2, 100, 40, 20);
        dueSlices("fades", x, 6, 10, 5, 5);
        checks.due("told(5)", x.told(5), 20);
        x.set(8, 7);
        dueSlices("at most 7", x, 6, 7, 5, 5);
        checks.due("at most 7: told(5)", x.told(5), 17);
        x.set(8, 0);
        checks.due("none: told(5)", x.told(5), 0);
        x.set(8, 500);
        // Budgets of 102, 41 and 20 in the order 0, 2, 1.
        x.set(5, 163);
        x.swap(1, 2);
        dueSlices("by the order", x, 6, 5, 10, 5);
        checks.due("by the order: told(5)", x.told(5), 20);
        x.mark(12);
        dueSlices("more budgets", x, 2, 102, 21, 20, 20);
        dueSlices("fourths round down", x, 6, 5, 5, 5, 5);
    }

    private static void fadesOfOne() {
        LoopSlicer x = new LoopSlicer();
        x.set(5, 43);
        checks.due("alone: slice(0, 6)", x.slice(0, 6), 10);
        checks.due("alone: told(5)", x.told(5), 10);
        x.set(5, 3);
        checks.due("3 samples: slice(0, 6)", x.slice(0, 6), 0);
    }

    private static void loudest() {
        LoopSlicer x = ofThree(12, 4, 8);
        dueSlices("silence", x, 7, 0, 4, 8);
        x.sound(3, 3, 5);
        x.sound(4, 4, 900);
        x.sound(5, 6, 7);
        x.sound(11, 11, 999);
        dueSlices("sound", x, 7, 3, 4, 11);
        x.sound(4, 4, 6);
        dueSlices("the first of several", x, 7, 3, 5, 11);
    }

    private static void beginsByOrder() {
        LoopSlicer x = ofThree(10, 2, 5);
        x.set(5, 100);
        dueSlices("in order", x, 4, 0, 20, 50);
        x.reverse();
        dueSlices("reversed", x, 4, 80, 50, 0);
        x.swap(0, 1);
        dueSlices("swapped", x, 4, 80, 0, 30);
        x.set(5, 1);
        dueSlices("budgets of one sample", x, 2, 0, 0, 1);
        dueSlices("begins of empty slices", x, 4, 1, 0, 0);
    }

    private static void sources() {
        LoopSlicer x = ofThree(10, 2, 5);
        x.set(0, 3);
        x.set(5, 20);
        x.reverse();
        // Lengths of 6, 9 and 15, budgets of 4, 6 and 10, in the order 2, 1, 0.
        int sample = 0;
        for (int slice = 2; slice >= 0; slice--) {
            int[] begins = {0, 6, 15};
            int[] lengths = {6, 9, 15};
            int[] budgets = {4, 6, 10};
            for (int j = 0; j < budgets[slice]; j++, sample++) {
                String call = "source(" + sample + ", ";
                int from = begins[slice] + j * lengths[slice] / budgets[slice];
                checks.due(call + "0)", x.source(sample, 0), slice);
                checks.due(call + "1)", x.source(sample, 1), from);
                // All fades are of one sample: a fourth of 4, or of 6, rounded down.
                int fading = j == budgets[slice] - 1 ? 1 : 0;
                checks.due(call + "2)", x.source(sample, 2), fading);
            }
        }
        checks.due("source(20, 0)", x.source(20, 0), -1);
        x.set(8, 0);
        checks.due("no fade: source(19, 2)", x.source(19, 2), 0);
    }

    private static void sourcesOfEmptySlices() {
        LoopSlicer x = ofThree(10, 1, 2);
        x.set(5, 2);
        dueSlices("two samples", x, 2, 0, 0, 2);
        x.swap(0, 1);
        checks.due("source(0, 0)", x.source(0, 0), 2);
        checks.due("source(1, 0)", x.source(1, 0), 2);
        checks.due("source(0, 1)", x.source(0, 1), 200);
        checks.due("source(1, 1)", x.source(1, 1), 600);
        checks.due("source(1, 2)", x.source(1, 2), 0);
        checks.due("source(2, 2)", x.source(2, 2), -1);
    }

    private static void warps() {
        LoopSlicer x = ofThree(10, 7, 9);
        x.set(5, 1234);
        for (int slice = 0; slice < 3; slice++) {
            float due = (float) x.slice(slice, 2) / (float) x.slice(slice, 1);
            checks.due("warp(" + slice + ")", x.warp(slice), due);
        }
        x.set(5, 500);
        checks.due("half: warp(0)", x.warp(0), 0.5);
        x.set(5, 333);
        checks.due("a third: warp(1)", x.warp(1), 67f / 200f);
        x.set(5, 1);
        checks.due("nothing: warp(2)", x.warp(2), 0);
    }

    private static void refuses() {
        LoopSlicer x = ofThree(10, 7, 9);
        int[] wrong = {-1, 64, Integer.MIN_VALUE, Integer.MAX_VALUE};
        for (int i : wrong) {
            checks.due("told(" + i + ")", x.told(i), -1);
            checks.due("slice(" + i + ", 0)", x.slice(i, 0), -1);
            checks.due("slice(0, " + i + ")", x.slice(0, i), -1);
            checks.due("source(0, " + i + ")", x.source(0, i), -1);
            checks.due("warp(" + i + ")", x.warp(i), -1);
        }
        checks.due("told(7)", x.told(7), -1);
        checks.due("slice(0, 8)", x.slice(0, 8), -1);
        checks.due("source(0, 3)", x.source(0, 3), -1);
        checks.due("source(-1, 0)", x.source(-1, 0), -1);
        checks.due("source(1600, 0)", x.source(1600, 0), -1);
        checks.due("source(least)", x.source(Integer.MIN_VALUE, 0), -1);
        checks.due("source(most)", x.source(Integer.MAX_VALUE, 0), -1);
        for (int what = 0; what < 8; what++) {
            checks.due("slice(3, " + what + ")", x.slice(3, what), -1);
        }
        checks.due("warp(3)", x.warp(3), -1);
    }
}
