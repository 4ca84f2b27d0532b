/** Edges of the promises 9, 10 and 16: swap, reverse, order; and what begins the order anew. */
final class OrderEdgesTest {
    private static final Checks checks = new Checks();

    public static void main(String[] args) {
        swapTheFirstAndTheLast();
        swapWithItself();
        swapTellsThePlaceOne();
        swapAlone();
        swapOfSixteen();
        swapNoPlace();
        reverseOne();
        reverseTwo();
        reverseThree();
        reverseSixteen();
        orderOfTheFirstAndTheLastPlace();
        whatBeginsTheOrderAnew();
        whatLeavesTheOrder();
        whatIsRefusedLeavesTheOrder();
        checks.end();
    }

    private static LoopSlicer ofFour() {
        return Made.withMarks(8, 2, 4, 6);
    }

    private static void dueOrder(String when, LoopSlicer x, int... slices) {
        checks.dueRow(when + ": order", x::order, slices);
        checks.due(when + ": no more places", x.order(slices.length), -1);
        for (int place = 0; place < slices.length; place++) {
            checks.due(when + ": its place", x.slice(slices[place], 5), place);
        }
    }

    // Promise 9: "Swaps two slices in the order. This is a change. one: a place in the order, from
    // 0; other: a place in the order, possibly the same. Returns the slice that stands at the
    // place one then; BAD if there is no such place."

    private static void swapTheFirstAndTheLast() {
        LoopSlicer x = ofFour();
        checks.due("swap(0, 3)", x.swap(0, 3), 3);
        dueOrder("swapped", x, 3, 1, 2, 0);
        checks.due("swap(3, 0)", x.swap(3, 0), 3);
        dueOrder("swapped back", x, 0, 1, 2, 3);
    }

    private static void swapWithItself() {
        LoopSlicer x = ofFour();
        int changes = x.told(6);
        checks.due("swap(0, 0)", x.swap(0, 0), 0);
        checks.due("swap(3, 3)", x.swap(3, 3), 3);
        dueOrder("swapped with itself", x, 0, 1, 2, 3);
        checks.due("swapped with itself: told(6)", x.told(6), changes + 2);
    }

    private static void swapTellsThePlaceOne() {
        LoopSlicer x = ofFour();
        x.swap(0, 1);
        // The places 2 and 0 hold the slices 2 and 1 before.
        checks.due("swap(2, 0)", x.swap(2, 0), 1);
        dueOrder("swapped", x, 2, 0, 1, 3);
        checks.due("swap(0, 3)", x.swap(0, 3), 3);
    }

    private static void swapAlone() {
        LoopSlicer x = new LoopSlicer();
        checks.due("one slice: swap(0, 0)", x.swap(0, 0), 0);
        checks.due("one slice: swap(0, 1)", x.swap(0, 1), -1);
        checks.due("one slice: swap(1, 0)", x.swap(1, 0), -1);
        checks.due("one slice: told(6)", x.told(6), 1);
    }

    private static void swapOfSixteen() {
        LoopSlicer x = Made.withSixteen(16);
        checks.due("16 slices: swap(15, 0)", x.swap(15, 0), 0);
        checks.due("16 slices: order(0)", x.order(0), 15);
        checks.due("16 slices: order(15)", x.order(15), 0);
        checks.due("16 slices: swap(0, 16)", x.swap(0, 16), -1);
        checks.due("16 slices: swap(16, 0)", x.swap(16, 0), -1);
    }

    private static void swapNoPlace() {
        LoopSlicer x = ofFour();
        x.swap(1, 2);
        String due = Picture.ofAll(x);
        int[] wrong = {-1, 4, 16, Integer.MIN_VALUE, Integer.MAX_VALUE};
        for (int place : wrong) {
            checks.due("swap(" + place + ", 0)", x.swap(place, 0), -1);
            checks.due("swap(3, " + place + ")", x.swap(3, place), -1);
            checks.due("swap of the same", x.swap(place, place), -1);
        }
        checks.dueText("swap refused: the answers", Picture.ofAll(x), due);
    }

    // Promise 10: "Turns the order round: the first slice comes last, and so on. This is a change.
    // Returns the slice that comes first then."

    private static void reverseOne() {
        LoopSlicer x = new LoopSlicer();
        checks.due("one slice: reverse()", x.reverse(), 0);
        checks.due("one slice: told(6)", x.told(6), 1);
        dueOrder("one slice", x, 0);
    }

    private static void reverseTwo() {
        LoopSlicer x = Made.withMarks(2, 1);
        checks.due("two slices: reverse()", x.reverse(), 1);
        dueOrder("two slices", x, 1, 0);
        checks.due("two slices: reverse() again", x.reverse(), 0);
        dueOrder("two slices again", x, 0, 1);
    }

    private static void reverseThree() {
        LoopSlicer x = Made.withMarks(3, 1, 2);
        x.swap(0, 1);
        checks.due("three slices: reverse()", x.reverse(), 2);
        dueOrder("three slices", x, 2, 0, 1);
    }

    private static void reverseSixteen() {
        LoopSlicer x = Made.withSixteen(64);
        checks.due("16 slices: reverse()", x.reverse(), 15);
        for (int place = 0; place < 16; place++) {
            checks.due("16 slices: order(" + place + ")", x.order(place), 15 - place);
        }
    }

    // Promise 16: "Returns the slice at a place in the order. place: the place, from 0. Returns
    // the slice; BAD if there is no such place."

    private static void orderOfTheFirstAndTheLastPlace() {
        LoopSlicer x = ofFour();
        x.swap(0, 3);
        checks.due("order(0)", x.order(0), 3);
        checks.due("order(3)", x.order(3), 0);
        checks.due("order(4)", x.order(4), -1);
        checks.due("order(-1)", x.order(-1), -1);
        checks.due("order(least int)", x.order(Integer.MIN_VALUE), -1);
        checks.due("order(greatest int)", x.order(Integer.MAX_VALUE), -1);
        LoopSlicer y = Made.withSixteen(16);
        checks.due("16 slices: order(15)", y.order(15), 15);
        checks.due("16 slices: order(16)", y.order(16), -1);
        checks.due("one slice: order(1)", new LoopSlicer().order(1), -1);
    }

    // "begin(), find(), mark() and unmark() make the order 0, 1, 2 and so on again; undo() and
    // back() bring it back."

    private static void whatBeginsTheOrderAnew() {
        LoopSlicer x = ofFour();
        x.keep(1);
        x.reverse();
        x.keep(0);
        x.begin(8);
        dueOrder("begin", x, 0);
        x.undo();
        dueOrder("begin undone", x, 3, 2, 1, 0);
        x.find();
        dueOrder("find", x, 0);
        x.undo();
        dueOrder("find undone", x, 3, 2, 1, 0);
        x.mark(7);
        dueOrder("mark", x, 0, 1, 2, 3, 4);
        x.undo();
        dueOrder("mark undone", x, 3, 2, 1, 0);
        x.unmark(3);
        dueOrder("unmark", x, 0, 1, 2);
        x.undo();
        dueOrder("unmark undone", x, 3, 2, 1, 0);
        x.back(1);
        dueOrder("back(1)", x, 0, 1, 2, 3);
        x.back(0);
        dueOrder("back(0)", x, 3, 2, 1, 0);
    }

    private static void whatLeavesTheOrder() {
        LoopSlicer x = ofFour();
        x.reverse();
        x.moveMark(1, 1);
        x.sound(0, 7, 500);
        for (int setting = 0; setting < 9; setting++) {
            x.set(setting, setting == 4 ? 100 : 1);
        }
        x.keep(0);
        dueOrder("moved, sounded, set and kept", x, 3, 2, 1, 0);
    }

    private static void whatIsRefusedLeavesTheOrder() {
        LoopSlicer x = ofFour();
        x.reverse();
        x.begin(0);
        x.mark(8);
        x.mark(6);
        x.unmark(0);
        x.unmark(4);
        x.back(0);
        dueOrder("refused", x, 3, 2, 1, 0);
    }
}
