/** Edges of the promises 5 to 8, 22 and 23 and of "MARKS AND SLICES". */
final class MarkEdgesTest {
    private static final Checks checks = new Checks();

    public static void main(String[] args) {
        theFrameZeroStaysAMark();
        slicesGoToTheNextMarkAndToTheEnd();
        slicesOfOneFrame();
        findInSilence();
        findDoesNotCountTheFirstEnergy();
        findAtTheThreshold();
        findAtTheLeastThreshold();
        findAtTheGreatestThreshold();
        findAtTheDistanceFromTheFirstFrame();
        findAtTheDistanceFromTheLatestMark();
        findAtTheLeastDistance();
        findAtTheGreatestDistance();
        findAtTheLastFrame();
        findSixteen();
        findStopsAtSixteen();
        findForgetsMarksByHand();
        findIsAChangeThoughNothingChanges();
        markTheFirstAndTheLastFrame();
        markWhateverTheDistanceIs();
        markAMark();
        markNoFrame();
        markTheSixteenth();
        markTheSeventeenth();
        markWithAllFramesMarked();
        unmarkTheFirstAndTheLast();
        unmarkNone();
        unmarkTheOnlyOne();
        unmarkOneOfSixteen();
        moveToWhereItIs();
        moveBesideTheNeighbours();
        moveOntoTheNeighbours();
        moveWithoutRoom();
        moveNoMark();
        moveToNoFrame();
        moveLeavesTheOrder();
        marksWithTheLeastAndTheGreatest();
        marksWithAtMostSixteen();
        marksWithChangesNothing();
        thresholdForOne();
        thresholdForTheGreatest();
        thresholdForTheLeast();
        thresholdForSixteen();
        thresholdForNone();
        thresholdForTheFirstAndTheLastRise();
        thresholdForIsTheGreatestOne();
        thresholdForNoNumber();
        checks.end();
    }

    private static void dueMarks(String when, LoopSlicer x, int... frames) {
        checks.due(when + ": told(2)", x.told(2), frames.length);
        checks.dueRow(when + ": mark", mark -> x.slice(mark, 0), frames);
        checks.due(when + ": no more marks", x.slice(frames.length, 0), -1);
    }

    // "A mark is a frame. The frame 0 is always a mark; there are at most 16 marks. The slices go
    // from each mark to the next one, and from the last one to the end; they are numbered from 0.
    // A slice's length is the number of its frames times S; all of them together are the loop's
    // length, F * S."

    private static void theFrameZeroStaysAMark() {
        LoopSlicer x = Made.withMarks(4, 1);
        checks.due("unmark(0)", x.unmark(0), -1);
        checks.due("moveMark(0, 0)", x.moveMark(0, 0), -1);
        checks.due("mark(0)", x.mark(0), -2);
        x.unmark(1);
        dueMarks("one left", x, 0);
        x.find();
        dueMarks("found", x, 0);
        x.begin(1);
        dueMarks("begun", x, 0);
    }

    private static void slicesGoToTheNextMarkAndToTheEnd() {
        LoopSlicer x = Made.withMarks(64, 1, 40);
        x.set(0, 1000);
        checks.dueRow("lengths", slice -> x.slice(slice, 1), 1000, 39000, 24000, -1);
        checks.due("told(1)", x.told(1), 64000);
        x.unmark(1);
        x.unmark(1);
        checks.dueRow("one slice: lengths", slice -> x.slice(slice, 1), 64000, -1);
    }

    private static void slicesOfOneFrame() {
        LoopSlicer x = Made.withSixteen(16);
        x.set(0, 1);
        for (int slice = 0; slice < 16; slice++) {
            checks.due("slice(" + slice + ", 1)", x.slice(slice, 1), 1);
        }
        checks.due("told(1)", x.told(1), 16);
    }

    // "To find marks means: the frame 0 is one; then, from frame 1 on, a frame k becomes a mark if
    // its energy is greater than that of the frame k - 1 by at least the threshold, its distance
    // from the latest mark is at least the setting, and there are not 16 marks yet."

    private static void findInSilence() {
        LoopSlicer x = new LoopSlicer();
        x.set(1, 1);
        checks.due("silence: find()", x.find(), 1);
        dueMarks("silence", x, 0);
        // The same energy everywhere rises nowhere.
        x.sound(0, 15, 999);
        checks.due("no rise: find()", x.find(), 1);
    }

    private static void findDoesNotCountTheFirstEnergy() {
        LoopSlicer x = Made.withEnergies(999, 0, 0, 0);
        checks.due("loud first frame: find()", x.find(), 1);
        // The frame 0 is a mark also if it is silent.
        LoopSlicer y = Made.withEnergies(0, 0, 999, 0);
        checks.due("silent first frame: find()", y.find(), 2);
        dueMarks("silent first frame", y, 0, 2);
    }

    private static void findAtTheThreshold() {
        LoopSlicer x = Made.withEnergies(0, 0, 50, 350);
        x.set(1, 300);
        checks.due("a rise of the threshold: find()", x.find(), 2);
        dueMarks("a rise of the threshold", x, 0, 3);
        x.set(1, 301);
        checks.due("a rise of one less: find()", x.find(), 1);
        x.set(1, 299);
        checks.due("a rise of one more: find()", x.find(), 2);
    }

    private static void findAtTheLeastThreshold() {
        LoopSlicer x = Made.withEnergies(5, 5, 5, 6, 6, 5);
        x.set(1, 1);
        checks.due("threshold 1: find()", x.find(), 2);
        dueMarks("threshold 1", x, 0, 3);
    }

    private static void findAtTheGreatestThreshold() {
        LoopSlicer x = Made.withEnergies(0, 0, 999, 0, 998, 1, 999);
        x.set(1, 999);
        checks.due("threshold 999: find()", x.find(), 2);
        dueMarks("threshold 999", x, 0, 2);
    }

    private static void findAtTheDistanceFromTheFirstFrame() {
        LoopSlicer x = Made.withEnergies(0, 200, 400, 600, 0);
        x.set(2, 3);
        checks.due("distance 3: find()", x.find(), 2);
        dueMarks("distance 3", x, 0, 3);
        x.set(2, 4);
        checks.due("distance 4: find()", x.find(), 1);
    }

    private static void findAtTheDistanceFromTheLatestMark() {
        // The rise at the frame 3 is too near to the mark 2, and is itself no mark to count from.
        LoopSlicer x = Made.withEnergies(0, 0, 200, 400, 600, 800);
        checks.due("distance 2: find()", x.find(), 3);
        dueMarks("distance 2", x, 0, 2, 4);
    }

    private static void findAtTheLeastDistance() {
        LoopSlicer x = Made.withEnergies(0, 100, 200, 300);
        x.set(2, 1);
        checks.due("distance 1: find()", x.find(), 4);
        dueMarks("distance 1", x, 0, 1, 2, 3);
    }

    private static void findAtTheGreatestDistance() {
        LoopSlicer x = Made.withMarks(64);
        x.set(2, 16);
        x.sound(15, 15, 100);
        x.sound(16, 16, 200);
        x.sound(31, 31, 300);
        x.sound(32, 32, 400);
        x.sound(63, 63, 100);
        checks.due("distance 16: find()", x.find(), 4);
        dueMarks("distance 16", x, 0, 16, 32, 63);
    }

    private static void findAtTheLastFrame() {
        LoopSlicer x = Made.withMarks(64);
        x.sound(63, 63, 100);
        checks.due("the last frame: find()", x.find(), 2);
        dueMarks("the last frame", x, 0, 63);
        checks.due("the last frame: slice(1, 1)", x.slice(1, 1), 100);
    }

    private static LoopSlicer withRises(int rises) {
        LoopSlicer x = Made.withMarks(64);
        for (int rise = 1; rise <= rises; rise++) {
            x.sound(rise * 2, rise * 2, 500);
        }
        return x;
    }

    private static void findSixteen() {
        LoopSlicer x = withRises(15);
        checks.due("15 rises: find()", x.find(), 16);
        checks.due("15 rises: slice(15, 0)", x.slice(15, 0), 30);
        LoopSlicer y = withRises(14);
        checks.due("14 rises: find()", y.find(), 15);
        checks.due("14 rises: slice(14, 0)", y.slice(14, 0), 28);
    }

    private static void findStopsAtSixteen() {
        LoopSlicer x = withRises(16);
        checks.due("16 rises: find()", x.find(), 16);
        checks.due("16 rises: slice(15, 0)", x.slice(15, 0), 30);
        checks.due("16 rises: slice(15, 1)", x.slice(15, 1), 3400);
        checks.due("16 rises: slice(16, 0)", x.slice(16, 0), -1);
        // The greatest rise of all comes too late.
        x.sound(62, 62, 999);
        checks.due("17 rises: find()", x.find(), 16);
        checks.due("17 rises: slice(15, 0)", x.slice(15, 0), 30);
    }

    // Promise 5: "Finds the marks anew, as described above; all others are forgotten. This is a
    // change." "Returns the number of marks then."

    private static void findForgetsMarksByHand() {
        LoopSlicer x = Made.withEnergies(0, 0, 0, 500, 0, 0);
        // A mark by hand just before the rise is none to keep the distance from.
        x.mark(2);
        x.mark(5);
        x.swap(0, 1);
        checks.due("find()", x.find(), 2);
        dueMarks("found", x, 0, 3);
        checks.dueRow("found: order", x::order, 0, 1, -1);
        LoopSlicer y = Made.withSixteen(16);
        checks.due("sixteen by hand: find()", y.find(), 1);
    }

    private static void findIsAChangeThoughNothingChanges() {
        LoopSlicer x = new LoopSlicer();
        checks.due("find()", x.find(), 1);
        checks.due("told(6)", x.told(6), 1);
        checks.due("undo()", x.undo(), 0);
    }

    // Promise 6: "Adds a mark by hand, whatever the distance is. This is a change." "Returns the
    // number of the mark, and of its slice; BAD if there is no such frame; STATE if it is a mark;
    // FULL if there are 16 marks."

    private static void markTheFirstAndTheLastFrame() {
        LoopSlicer x = Made.withMarks(64, 30);
        checks.due("mark(1)", x.mark(1), 1);
        checks.due("mark(63)", x.mark(63), 3);
        dueMarks("first and last", x, 0, 1, 30, 63);
        checks.due("mark(31)", x.mark(31), 3);
        checks.due("mark(29)", x.mark(29), 2);
        dueMarks("between", x, 0, 1, 29, 30, 31, 63);
    }

    private static void markWhateverTheDistanceIs() {
        LoopSlicer x = Made.withMarks(20);
        x.set(2, 16);
        checks.due("distance 16: mark(1)", x.mark(1), 1);
        checks.due("distance 16: mark(2)", x.mark(2), 2);
    }

    private static void markAMark() {
        LoopSlicer x = Made.withMarks(8, 3, 7);
        x.reverse();
        String due = Picture.ofAll(x);
        checks.due("mark(0)", x.mark(0), -2);
        checks.due("mark(3)", x.mark(3), -2);
        checks.due("mark(7)", x.mark(7), -2);
        checks.dueText("mark refused: the answers", Picture.ofAll(x), due);
    }

    private static void markNoFrame() {
        LoopSlicer x = Made.withMarks(8, 3);
        String due = Picture.ofAll(x);
        int[] wrong = {-1, 8, 63, 64, Integer.MIN_VALUE, Integer.MAX_VALUE};
        for (int frame : wrong) {
            checks.due("mark(" + frame + ")", x.mark(frame), -1);
        }
        checks.dueText("mark refused: the answers", Picture.ofAll(x), due);
        checks.due("mark(7)", x.mark(7), 2);
    }

    private static void markTheSixteenth() {
        // The sixteenth comes behind, between and before all others but the frame 0.
        for (int frame : new int[] {63, 31, 1}) {
            LoopSlicer x = Made.withMarks(64, 2, 4, 6, 8, 10, 12, 14, 40, 42, 44, 46, 48, 50, 52);
            int number = frame == 63 ? 15 : frame == 31 ? 8 : 1;
            checks.due("15 marks: mark(" + frame + ")", x.mark(frame), number);
            checks.due("16 marks: told(2)", x.told(2), 16);
            checks.due("16 marks: slice(15, 0)", x.slice(15, 0), frame == 63 ? 63 : 52);
            checks.due("16 marks: its frame", x.slice(number, 0), frame);
        }
    }

    private static void markTheSeventeenth() {
        LoopSlicer x = Made.withSixteen(20);
        x.reverse();
        String due = Picture.ofAll(x);
        checks.due("16 marks: mark(16)", x.mark(16), -3);
        checks.due("16 marks: mark(19)", x.mark(19), -3);
        // The first code of the list that applies is told.
        checks.due("16 marks: mark(15)", x.mark(15), -2);
        checks.due("16 marks: mark(0)", x.mark(0), -2);
        checks.due("16 marks: mark(20)", x.mark(20), -1);
        checks.due("16 marks: mark(-1)", x.mark(-1), -1);
        checks.dueText("mark refused: the answers", Picture.ofAll(x), due);
    }

    private static void markWithAllFramesMarked() {
        LoopSlicer x = Made.withSixteen(16);
        for (int frame = 0; frame < 16; frame++) {
            checks.due("all marked: mark(" + frame + ")", x.mark(frame), -2);
        }
        LoopSlicer y = Made.withMarks(1);
        checks.due("one frame: mark(0)", y.mark(0), -2);
        checks.due("one frame: mark(1)", y.mark(1), -1);
    }

    // Promise 7: "Removes a mark. This is a change." "Returns the number of marks then; BAD if
    // there is no such mark, or it is 0."

    private static void unmarkTheFirstAndTheLast() {
        LoopSlicer x = Made.withMarks(10, 2, 5, 9);
        x.swap(0, 3);
        checks.due("unmark(1)", x.unmark(1), 3);
        dueMarks("the first one removed", x, 0, 5, 9);
        checks.dueRow("the first one removed: order", x::order, 0, 1, 2, -1);
        checks.due("unmark(2)", x.unmark(2), 2);
        dueMarks("the last one removed", x, 0, 5);
        checks.due("the last one removed: slice(1, 1)", x.slice(1, 1), 500);
    }

    private static void unmarkNone() {
        LoopSlicer x = Made.withMarks(10, 2, 5);
        x.reverse();
        String due = Picture.ofAll(x);
        int[] wrong = {0, -1, 3, 5, Integer.MIN_VALUE, Integer.MAX_VALUE};
        for (int mark : wrong) {
            checks.due("unmark(" + mark + ")", x.unmark(mark), -1);
        }
        checks.dueText("unmark refused: the answers", Picture.ofAll(x), due);
    }

    private static void unmarkTheOnlyOne() {
        LoopSlicer x = new LoopSlicer();
        checks.due("one mark: unmark(0)", x.unmark(0), -1);
        checks.due("one mark: unmark(1)", x.unmark(1), -1);
        checks.due("one mark: told(6)", x.told(6), 0);
    }

    private static void unmarkOneOfSixteen() {
        LoopSlicer x = Made.withSixteen(16);
        checks.due("16 marks: unmark(16)", x.unmark(16), -1);
        checks.due("16 marks: unmark(15)", x.unmark(15), 15);
        checks.due("15 marks: unmark(15)", x.unmark(15), -1);
        checks.due("15 marks: slice(14, 1)", x.slice(14, 1), 200);
        checks.due("15 marks: mark(15)", x.mark(15), 15);
        checks.due("16 marks: unmark(1)", x.unmark(1), 15);
        checks.due("15 marks: slice(14, 0)", x.slice(14, 0), 15);
        checks.due("15 marks: slice(0, 1)", x.slice(0, 1), 200);
    }

    // Promise 8: "Moves a mark to a frame that lies between the marks before and behind it (or the
    // end), also to the one where it is. This is a change." "Returns the frame that it was; BAD if
    // there is no such mark, or it is 0, or there is no such frame; STATE if the frame does not
    // lie there."

    private static void moveToWhereItIs() {
        LoopSlicer x = Made.withMarks(10, 4);
        int changes = x.told(6);
        checks.due("moveMark(1, 4)", x.moveMark(1, 4), 4);
        checks.due("told(6)", x.told(6), changes + 1);
        dueMarks("not moved", x, 0, 4);
    }

    private static void moveBesideTheNeighbours() {
        LoopSlicer x = Made.withMarks(10, 4, 7);
        checks.due("moveMark(1, 1)", x.moveMark(1, 1), 4);
        dueMarks("behind the first mark", x, 0, 1, 7);
        checks.due("moveMark(1, 6)", x.moveMark(1, 6), 1);
        dueMarks("before the last mark", x, 0, 6, 7);
        checks.due("moveMark(2, 9)", x.moveMark(2, 9), 7);
        dueMarks("before the end", x, 0, 6, 9);
        checks.due("moveMark(2, 7)", x.moveMark(2, 7), 9);
        dueMarks("behind a mark", x, 0, 6, 7);
    }

    private static void moveOntoTheNeighbours() {
        LoopSlicer x = Made.withMarks(10, 4, 7);
        x.reverse();
        String due = Picture.ofAll(x);
        checks.due("moveMark(1, 0)", x.moveMark(1, 0), -2);
        checks.due("moveMark(1, 7)", x.moveMark(1, 7), -2);
        checks.due("moveMark(1, 8)", x.moveMark(1, 8), -2);
        checks.due("moveMark(2, 4)", x.moveMark(2, 4), -2);
        checks.due("moveMark(2, 3)", x.moveMark(2, 3), -2);
        checks.dueText("moveMark refused: the answers", Picture.ofAll(x), due);
    }

    private static void moveWithoutRoom() {
        LoopSlicer x = Made.withSixteen(16);
        for (int mark = 1; mark < 16; mark++) {
            String call = "no room: moveMark(" + mark + ", ..)";
            checks.due(call + " back", x.moveMark(mark, mark - 1), -2);
            checks.due(call + " to itself", x.moveMark(mark, mark), mark);
            // Behind the last frame there is no frame.
            checks.due(call + " on", x.moveMark(mark, mark + 1), mark == 15 ? -1 : -2);
        }
    }

    private static void moveNoMark() {
        LoopSlicer x = Made.withMarks(10, 4, 7);
        String due = Picture.ofAll(x);
        int[] wrong = {0, -1, 3, Integer.MIN_VALUE, Integer.MAX_VALUE};
        for (int mark : wrong) {
            checks.due("moveMark(" + mark + ", 0)", x.moveMark(mark, 0), -1);
            checks.due("moveMark(" + mark + ", 8)", x.moveMark(mark, 8), -1);
            checks.due("moveMark(" + mark + ", 10)", x.moveMark(mark, 10), -1);
        }
        checks.dueText("moveMark refused: the answers", Picture.ofAll(x), due);
        LoopSlicer y = new LoopSlicer();
        checks.due("one mark: moveMark(1, 1)", y.moveMark(1, 1), -1);
    }

    private static void moveToNoFrame() {
        LoopSlicer x = Made.withMarks(10, 4, 7);
        String due = Picture.ofAll(x);
        int[] wrong = {-1, 10, 64, Integer.MIN_VALUE, Integer.MAX_VALUE};
        for (int frame : wrong) {
            checks.due("moveMark(1, " + frame + ")", x.moveMark(1, frame), -1);
            checks.due("moveMark(2, " + frame + ")", x.moveMark(2, frame), -1);
        }
        checks.dueText("moveMark refused: the answers", Picture.ofAll(x), due);
    }

    private static void moveLeavesTheOrder() {
        LoopSlicer x = Made.withMarks(10, 4, 7);
        x.swap(0, 1);
        x.moveMark(1, 5);
        checks.dueRow("moved: order", x::order, 1, 0, 2, -1);
    }

    // Promise 22: "Tells how many marks would be found with another threshold." "threshold, 1 to
    // 999"; "BAD if threshold is out of range."

    private static void marksWithTheLeastAndTheGreatest() {
        LoopSlicer x = Made.withEnergies(0, 0, 999, 0, 1, 0, 998);
        checks.due("marksWith(1)", x.marksWith(1), 4);
        checks.due("marksWith(2)", x.marksWith(2), 3);
        checks.due("marksWith(998)", x.marksWith(998), 3);
        checks.due("marksWith(999)", x.marksWith(999), 2);
        checks.due("marksWith(0)", x.marksWith(0), -1);
        checks.due("marksWith(1000)", x.marksWith(1000), -1);
        checks.due("marksWith(least int)", x.marksWith(Integer.MIN_VALUE), -1);
        checks.due("marksWith(greatest int)", x.marksWith(Integer.MAX_VALUE), -1);
        checks.due("silence: marksWith(1)", Made.withMarks(64).marksWith(1), 1);
        checks.due("one frame: marksWith(1)", Made.withMarks(1).marksWith(1), 1);
    }

    private static void marksWithAtMostSixteen() {
        checks.due("14 rises: marksWith(500)", withRises(14).marksWith(500), 15);
        checks.due("15 rises: marksWith(500)", withRises(15).marksWith(500), 16);
        checks.due("16 rises: marksWith(500)", withRises(16).marksWith(500), 16);
        checks.due("31 rises: marksWith(500)", withRises(31).marksWith(500), 16);
        checks.due("31 rises: marksWith(501)", withRises(31).marksWith(501), 1);
    }

    private static void marksWithChangesNothing() {
        LoopSlicer x = Made.withEnergies(0, 0, 999, 0, 1, 0, 998);
        x.mark(1);
        x.mark(5);
        x.reverse();
        String due = Picture.ofAll(x);
        checks.due("marksWith(1)", x.marksWith(1), 4);
        checks.due("thresholdFor(4)", x.thresholdFor(4), 1);
        checks.dueText("asked: the answers", Picture.ofAll(x), due);
    }

    // Promise 23: "Finds the greatest threshold with which at least some number of marks would be
    // found." "the number, 1 to 16"; "Returns the threshold, 1 to 999; NONE if there is none; BAD
    // if marks is out of range."

    private static void thresholdForOne() {
        checks.due("silence: thresholdFor(1)", Made.withMarks(64).thresholdFor(1), 999);
        checks.due("one frame: thresholdFor(1)", Made.withMarks(1).thresholdFor(1), 999);
        checks.due("rises: thresholdFor(1)", withRises(31).thresholdFor(1), 999);
    }

    private static void thresholdForTheGreatest() {
        LoopSlicer x = Made.withEnergies(0, 0, 999, 0, 999, 0);
        checks.due("rises of 999: thresholdFor(3)", x.thresholdFor(3), 999);
        x.sound(4, 4, 998);
        checks.due("a rise of 998: thresholdFor(3)", x.thresholdFor(3), 998);
        checks.due("a rise of 998: thresholdFor(2)", x.thresholdFor(2), 999);
    }

    private static void thresholdForTheLeast() {
        LoopSlicer x = Made.withEnergies(0, 0, 1);
        checks.due("a rise of 1: thresholdFor(2)", x.thresholdFor(2), 1);
        x.sound(0, 1, 1);
        checks.due("no rise: thresholdFor(2)", x.thresholdFor(2), -9);
        x.sound(0, 1, 2);
        checks.due("a fall of 1: thresholdFor(2)", x.thresholdFor(2), -9);
    }

    private static void thresholdForSixteen() {
        checks.due("15 rises: thresholdFor(16)", withRises(15).thresholdFor(16), 500);
        checks.due("16 rises: thresholdFor(16)", withRises(16).thresholdFor(16), 500);
        checks.due("14 rises: thresholdFor(16)", withRises(14).thresholdFor(16), -9);
        checks.due("14 rises: thresholdFor(15)", withRises(14).thresholdFor(15), 500);
    }

    private static void thresholdForNone() {
        checks.due("silence: thresholdFor(2)", Made.withMarks(64).thresholdFor(2), -9);
        checks.due("one frame: thresholdFor(2)", Made.withMarks(1).thresholdFor(2), -9);
        // A rise that is always too near to the frame 0.
        checks.due("too near: thresholdFor(2)", Made.withEnergies(0, 999).thresholdFor(2), -9);
    }

    private static void thresholdForTheFirstAndTheLastRise() {
        LoopSlicer x = Made.withEnergies(0, 500, 0, 0);
        x.set(2, 1);
        checks.due("a rise at the frame 1: thresholdFor(2)", x.thresholdFor(2), 500);
        LoopSlicer y = Made.withEnergies(0, 0, 0, 500);
        checks.due("a rise at the last frame: thresholdFor(2)", y.thresholdFor(2), 500);
    }

    private static void thresholdForIsTheGreatestOne() {
        LoopSlicer x = Made.withEnergies(0, 40, 45, 300, 290, 700, 0, 13, 512, 500, 501);
        for (int marks = 2; marks <= 5; marks++) {
            int threshold = x.thresholdFor(marks);
            String call = "thresholdFor(" + marks + ")";
            checks.due(call + " is one", threshold >= 1 && threshold < 999 ? 1 : 0, 1);
            checks.due(call + " is enough", x.marksWith(threshold) >= marks ? 1 : 0, 1);
            for (int more = threshold + 1; more <= Math.min(999, threshold + 60); more++) {
                checks.due(call + " is the greatest", x.marksWith(more) < marks ? 1 : 0, 1);
            }
        }
    }

    private static void thresholdForNoNumber() {
        LoopSlicer x = withRises(15);
        checks.due("thresholdFor(0)", x.thresholdFor(0), -1);
        checks.due("thresholdFor(-1)", x.thresholdFor(-1), -1);
        checks.due("thresholdFor(17)", x.thresholdFor(17), -1);
        checks.due("thresholdFor(least int)", x.thresholdFor(Integer.MIN_VALUE), -1);
        checks.due("thresholdFor(greatest int)", x.thresholdFor(Integer.MAX_VALUE), -1);
    }
}
