/** Promises 5 to 8, 22 and 23: find, mark, unmark, moveMark, marksWith, thresholdFor. */
final class MarksTest {
    private static final Checks checks = new Checks();

    public static void main(String[] args) {
        findsRises();
        findKeepsDistance();
        findStopsAtSixteen();
        findForgets();
        marksByHand();
        markRefuses();
        unmarks();
        moves();
        countsWithThreshold();
        findsThreshold();
        wrongThresholds();
        checks.end();
    }

    private static void dueMarks(String when, LoopSlicer x, int... frames) {
        checks.due(when + ": marks", x.told(2), frames.length);
        for (int mark = 0; mark < frames.length; mark++) {
            checks.due(when + ": mark " + mark, x.slice(mark, 0), frames[mark]);
        }
        checks.due(when + ": no more", x.slice(frames.length, 0), -1);
    }

    private static void findsRises() {
        // Rises of 99, 100 and 101, and a fall; the threshold is 100.
        LoopSlicer x = Made.withEnergies(500, 0, 99, 0, 100, 0, 101, 0);
        checks.due("find()", x.find(), 3);
        dueMarks("rises", x, 0, 4, 6);
        x.set(1, 101);
        checks.due("find() at 101", x.find(), 2);
        dueMarks("rises at 101", x, 0, 6);
        x.set(1, 1);
        checks.due("find() at 1", x.find(), 4);
        dueMarks("rises at 1", x, 0, 2, 4, 6);
    }

    private static void findKeepsDistance() {
        // The distance is counted from the latest mark, not from the latest rise.
        LoopSlicer x = Made.withEnergies(0, 100, 200, 300, 400, 500, 600, 700);
        x.set(2, 1);
        checks.due("find() at distance 1", x.find(), 8);
        x.set(2, 3);
        checks.due("find() at distance 3", x.find(), 3);
        dueMarks("distance 3", x, 0, 3, 6);
        x.set(2, 8);
        checks.due("find() at distance 8", x.find(), 1);
        dueMarks("distance 8", x, 0);
    }

    private static void findStopsAtSixteen() {
        LoopSlicer x = new LoopSlicer();
        x.begin(64);
        for (int frame = 1; frame < 64; frame += 2) {
            x.sound(frame, frame, 900);
        }
        checks.due("find() of 32 rises", x.find(), 16);
        checks.due("the last of 16", x.slice(15, 0), 29 + 2);
        checks.due("it goes to the end", x.slice(15, 1), (64 - 31) * 100);
    }

    private static void findForgets() {
        LoopSlicer x = Made.withEnergies(0, 0, 0, 0, 0, 0, 500, 0);
        x.mark(3);
        x.mark(5);
        x.reverse();
        checks.due("find()", x.find(), 2);
        dueMarks("found", x, 0, 6);
        checks.due("found: order(0)", x.order(0), 0);
        checks.due("found: order(1)", x.order(1), 1);
        x.undo();
        dueMarks("find undone", x, 0, 3, 5);
        checks.due("find undone: order(0)", x.order(0), 2);
        checks.due("find undone: order(2)", x.order(2), 0);
    }

    private static void marksByHand() {
        LoopSlicer x = new LoopSlicer();
        checks.due("mark(15)", x.mark(15), 1);
        checks.due("mark(1)", x.mark(1), 1);
        checks.due("mark(2)", x.mark(2), 2);
        dueMarks("by hand", x, 0, 1, 2, 15);
        x.reverse();
        checks.due("reversed: order(0)", x.order(0), 3);
        checks.due("mark(7)", x.mark(7), 3);
        dueMarks("one more", x, 0, 1, 2, 7, 15);
        for (int place = 0; place < 5; place++) {
            checks.due("marked: order(" + place + ")", x.order(place), place);
        }
        x.undo();
        checks.due("undone: order(0)", x.order(0), 3);
        checks.due("undone: told(2)", x.told(2), 4);
    }

    private static void markRefuses() {
        LoopSlicer x = new LoopSlicer();
        x.begin(20);
        x.set(3, 60);
        int[] wrong = {-1, 20, 64, Integer.MIN_VALUE, Integer.MAX_VALUE};
        for (int frame : wrong) {
            checks.due("mark(" + frame + ")", x.mark(frame), -1);
        }
        checks.due("mark(0)", x.mark(0), -2);
        for (int frame = 1; frame < 16; frame++) {
            checks.due("mark(" + frame + ")", x.mark(frame), frame);
        }
        x.swap(0, 15);
        x.set(3, 70);
        checks.due("full: mark(16)", x.mark(16), -3);
        checks.due("full: mark(15)", x.mark(15), -2);
        checks.due("full: mark(20)", x.mark(20), -1);
        checks.due("full: told(2)", x.told(2), 16);
        checks.due("full: order(0)", x.order(0), 15);
        x.undo();
        checks.due("a refused mark is not recorded", x.setting(3), 60);
        checks.due("full: unmark(3)", x.unmark(3), 15);
        checks.due("unmarked: the last one", x.slice(14, 0), 15);
        checks.due("mark(19)", x.mark(19), 15);
    }

    private static void unmarks() {
        LoopSlicer x = new LoopSlicer();
        x.mark(4);
        x.mark(8);
        x.mark(12);
        x.reverse();
        int[] wrong = {0, -1, 4, 16, Integer.MIN_VALUE, Integer.MAX_VALUE};
        for (int mark : wrong) {
            checks.due("unmark(" + mark + ")", x.unmark(mark), -1);
        }
        checks.due("refused: told(6)", x.told(6), 4);
        checks.due("refused: order(0)", x.order(0), 3);
        checks.due("unmark(2)", x.unmark(2), 3);
        dueMarks("unmarked", x, 0, 4, 12);
        checks.due("unmarked: order(0)", x.order(0), 0);
        checks.due("unmarked: order(2)", x.order(2), 2);
        checks.due("unmark(2)", x.unmark(2), 2);
        checks.due("unmark(1)", x.unmark(1), 1);
        dueMarks("all unmarked", x, 0);
        checks.due("told(6)", x.told(6), 7);
        x.undo();
        x.undo();
        x.undo();
        dueMarks("undone", x, 0, 4, 8, 12);
        checks.due("undone: order(0)", x.order(0), 3);
    }

    private static void moves() {
        LoopSlicer x = new LoopSlicer();
        x.mark(4);
        x.mark(8);
        x.reverse();
        int[][] bad = {{0, 1}, {-1, 5}, {3, 9}, {1, -1}, {1, 16}, {Integer.MAX_VALUE, 5},
            {Integer.MIN_VALUE, 5}, {2, Integer.MAX_VALUE}, {2, Integer.MIN_VALUE}};
        for (int[] b : bad) {
            checks.due("moveMark(" + b[0] + ", " + b[1] + ")", x.moveMark(b[0], b[1]), -1);
        }
        int[][] between = {{1, 0}, {1, 8}, {1, 9}, {2, 4}, {2, 3}, {2, 0}};
        for (int[] b : between) {
            checks.due("moveMark(" + b[0] + ", " + b[1] + ")", x.moveMark(b[0], b[1]), -2);
        }
        checks.due("refused: told(6)", x.told(6), 3);
        checks.due("moveMark(1, 1)", x.moveMark(1, 1), 4);
        checks.due("moveMark(1, 7)", x.moveMark(1, 7), 1);
        checks.due("moveMark(2, 15)", x.moveMark(2, 15), 8);
        checks.due("moveMark(2, 15)", x.moveMark(2, 15), 15);
        dueMarks("moved", x, 0, 7, 15);
        checks.due("moved: the order stays", x.order(0), 2);
        checks.due("moved: told(6)", x.told(6), 7);
        x.undo();
        x.undo();
        dueMarks("undone", x, 0, 7, 8);
    }

    private static void countsWithThreshold() {
        LoopSlicer x = Made.withEnergies(0, 999, 0, 500, 0, 200, 300, 0);
        x.set(2, 1);
        checks.due("marksWith(1)", x.marksWith(1), 5);
        checks.due("marksWith(100)", x.marksWith(100), 5);
        checks.due("marksWith(101)", x.marksWith(101), 4);
        checks.due("marksWith(201)", x.marksWith(201), 3);
        checks.due("marksWith(500)", x.marksWith(500), 3);
        checks.due("marksWith(501)", x.marksWith(501), 2);
        checks.due("marksWith(999)", x.marksWith(999), 2);
        x.set(2, 2);
        checks.due("distance 2: marksWith(1)", x.marksWith(1), 3);
        checks.due("distance 2: marksWith(201)", x.marksWith(201), 2);
        checks.due("marksWith leaves the marks", x.told(2), 1);
        checks.due("marksWith leaves the setting", x.setting(1), 100);
    }

    private static void findsThreshold() {
        LoopSlicer x = Made.withEnergies(0, 998, 0, 500, 0, 200, 300, 0);
        x.set(2, 1);
        int[] due = {999, 998, 500, 200, 100, -9, -9};
        for (int marks = 1; marks <= due.length; marks++) {
            checks.due("thresholdFor(" + marks + ")", x.thresholdFor(marks), due[marks - 1]);
        }
        x.set(2, 2);
        // The rise of 998 lies too near to the frame 0, whatever the threshold is.
        int[] farther = {999, 500, 200, -9};
        for (int marks = 1; marks <= farther.length; marks++) {
            String call = "distance 2: thresholdFor(" + marks + ")";
            checks.due(call, x.thresholdFor(marks), farther[marks - 1]);
        }
        x.sound(7, 7, 301);
        checks.due("a rise of 1: thresholdFor(4)", x.thresholdFor(4), 1);
        checks.due("thresholdFor leaves the marks", x.told(2), 1);
        checks.due("thresholdFor leaves the setting", x.setting(1), 100);
        x = Made.withEnergies(0, 0, 999);
        checks.due("a rise of 999: thresholdFor(2)", x.thresholdFor(2), 999);
        x = new LoopSlicer();
        x.begin(64);
        x.set(2, 1);
        for (int frame = 1; frame < 64; frame += 2) {
            x.sound(frame, frame, 10 + frame);
        }
        checks.due("of 32 rises: thresholdFor(16)", x.thresholdFor(16), 10 + 63 - 14 * 2);
    }

    private static void wrongThresholds() {
        LoopSlicer x = new LoopSlicer();
        int[] wrong = {0, -1, 1000, Integer.MIN_VALUE, Integer.MAX_VALUE};
        for (int threshold : wrong) {
            checks.due("marksWith(" + threshold + ")", x.marksWith(threshold), -1);
        }
        int[] wrongMarks = {0, -1, 17, Integer.MIN_VALUE, Integer.MAX_VALUE};
        for (int marks : wrongMarks) {
            checks.due("thresholdFor(" + marks + ")", x.thresholdFor(marks), -1);
        }
    }
}
