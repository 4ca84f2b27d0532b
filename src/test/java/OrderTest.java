/** Promises 9 to 11, 16, 24 and 25: swap, reverse, undo, order, keep, back. */
final class OrderTest {
    private static final Checks checks = new Checks();

    public static void main(String[] args) {
        swaps();
        swapRefuses();
        reverses();
        ordersRefuse();
        undoesEight();
        undoesEveryChange();
        keepsAndGoesBack();
        imagesStayApart();
        imagesRefuse();
        checks.end();
    }

    private static LoopSlicer ofFour() {
        LoopSlicer x = new LoopSlicer();
        x.mark(4);
        x.mark(8);
        x.mark(12);
        return x;
    }

    private static void dueOrder(String when, LoopSlicer x, int... slices) {
        for (int place = 0; place < slices.length; place++) {
            checks.due(when + ": order(" + place + ")", x.order(place), slices[place]);
            checks.due(when + ": its place", x.slice(slices[place], 5), place);
        }
        checks.due(when + ": no more", x.order(slices.length), -1);
    }

    private static void swaps() {
        LoopSlicer x = ofFour();
        checks.due("swap(0, 2)", x.swap(0, 2), 2);
        dueOrder("swapped", x, 2, 1, 0, 3);
        // These are places, not slices.
        checks.due("swap(3, 0)", x.swap(3, 0), 2);
        dueOrder("swapped again", x, 3, 1, 0, 2);
        checks.due("swap(1, 1)", x.swap(1, 1), 1);
        dueOrder("swapped with itself", x, 3, 1, 0, 2);
        checks.due("told(6)", x.told(6), 6);
        x.undo();
        checks.due("undo()", x.undo(), 4);
        dueOrder("undone", x, 2, 1, 0, 3);
    }

    private static void swapRefuses() {
        LoopSlicer x = ofFour();
        int[] wrong = {-1, 4, 16, Integer.MIN_VALUE, Integer.MAX_VALUE};
        for (int place : wrong) {
            checks.due("swap(" + place + ", 0)", x.swap(place, 0), -1);
            checks.due("swap(0, " + place + ")", x.swap(0, place), -1);
        }
        checks.due("refused: told(6)", x.told(6), 3);
        dueOrder("refused", x, 0, 1, 2, 3);
    }

    private static void reverses() {
        LoopSlicer x = ofFour();
        x.swap(0, 1);
        checks.due("reverse()", x.reverse(), 3);
        dueOrder("reversed", x, 3, 2, 0, 1);
        x.unmark(3);
        checks.due("reverse() of three", x.reverse(), 2);
        dueOrder("three", x, 2, 1, 0);
        x.begin(1);
        checks.due("reverse() of one", x.reverse(), 0);
    }

    private static void ordersRefuse() {
        LoopSlicer x = ofFour();
        int[] wrong = {-1, 4, 16, Integer.MIN_VALUE, Integer.MAX_VALUE};
        for (int place : wrong) {
            checks.due("order(" + place + ")", x.order(place), -1);
        }
    }

    private static void undoesEight() {
        LoopSlicer x = new LoopSlicer();
        for (int value = 1; value <= 11; value++) {
            x.set(0, value);
            checks.due("told(6)", x.told(6), Math.min(value, 8));
        }
        for (int value = 10; value >= 3; value--) {
            checks.due("undo()", x.undo(), value - 3);
            checks.due("undone: setting(0)", x.setting(0), value);
        }
        checks.due("undo() of none", x.undo(), -2);
        checks.due("the oldest are dropped", x.setting(0), 3);
        checks.due("undo() of none again", x.undo(), -2);
        x.set(0, 50);
        checks.due("undo() after that", x.undo(), 0);
        checks.due("undone: setting(0)", x.setting(0), 3);
    }

    private static void undoesEveryChange() {
        LoopSlicer x = new LoopSlicer();
        x.mark(8);
        x.undo();
        checks.due("mark undone", x.told(2), 1);
        // Questions are not recorded, and changes that change nothing are.
        x.told(3);
        x.slice(0, 2);
        x.nearTarget(5);
        x.leastGrid();
        x.source(0, 0);
        x.setting(0);
        x.energy(0);
        x.order(0);
        x.warp(0);
        x.shift();
        x.marksWith(5);
        x.thresholdFor(2);
        x.keep(0);
        checks.due("questions: told(6)", x.told(6), 0);
        x.sound(0, 0, 0);
        x.set(0, 100);
        x.find();
        x.swap(0, 0);
        x.reverse();
        x.back(0);
        x.begin(16);
        checks.due("changes: told(6)", x.told(6), 7);
        x.mark(3);
        x.unmark(1);
        checks.due("changes: told(6)", x.told(6), 8);
        for (int left = 7; left >= 0; left--) {
            checks.due("undo()", x.undo(), left);
        }
        checks.due("undo() of none", x.undo(), -2);
    }

    private static void keepsAndGoesBack() {
        LoopSlicer x = ofFour();
        x.sound(3, 3, 77);
        x.swap(1, 3);
        x.set(5, 900);
        int changes = x.told(6);
        checks.due("keep(1)", x.keep(1), 4);
        checks.due("keep is no change", x.told(6), changes);
        x.begin(2);
        x.set(5, 5);
        checks.due("back(1)", x.back(1), 4);
        checks.due("back: told(0)", x.told(0), 16);
        checks.due("back: energy(3)", x.energy(3), 77);
        checks.due("back: setting(5)", x.setting(5), 900);
        checks.due("back: slice(3, 0)", x.slice(3, 0), 12);
        dueOrder("back", x, 0, 3, 2, 1);
        checks.due("back is recorded", x.undo(), 7);
        checks.due("back undone: told(0)", x.told(0), 2);
        checks.due("back undone: setting(5)", x.setting(5), 5);
        // The image stays, and is its own: changes of the state do not reach it.
        x.back(1);
        x.unmark(1);
        x.sound(3, 3, 1);
        x.reverse();
        checks.due("back(1) again", x.back(1), 4);
        checks.due("back again: energy(3)", x.energy(3), 77);
        dueOrder("back again", x, 0, 3, 2, 1);
    }

    private static void imagesStayApart() {
        LoopSlicer x = new LoopSlicer();
        x.keep(0);
        x.mark(5);
        checks.due("keep(1)", x.keep(1), 2);
        checks.due("back(0)", x.back(0), 1);
        checks.due("back(1)", x.back(1), 2);
        x.mark(6);
        checks.due("keep(0) anew", x.keep(0), 3);
        // Undoing does not reach the images.
        while (x.undo() > 0) {
            checks.due("undone: setting(0)", x.setting(0), 100);
        }
        checks.due("all undone: told(2)", x.told(2), 1);
        checks.due("back(0)", x.back(0), 3);
        checks.due("back(1)", x.back(1), 2);
    }

    private static void imagesRefuse() {
        LoopSlicer x = new LoopSlicer();
        int[] wrong = {-1, 2, Integer.MIN_VALUE, Integer.MAX_VALUE};
        for (int i : wrong) {
            checks.due("keep(" + i + ")", x.keep(i), -1);
            checks.due("back(" + i + ")", x.back(i), -1);
        }
        checks.due("back(0)", x.back(0), -2);
        x.keep(0);
        checks.due("back(1)", x.back(1), -2);
        checks.due("refused: told(6)", x.told(6), 0);
        checks.due("back(0) kept", x.back(0), 1);
        checks.due("told(6)", x.told(6), 1);
    }
}
