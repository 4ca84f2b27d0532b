/** Edges of the promises 11, 24 and 25 and of "CHANGES": undo, keep and back. */
final class HistoryEdgesTest {
    private static final Checks checks = new Checks();

    public static void main(String[] args) {
        undoNone();
        undoOne();
        undoEight();
        undoTheNinth();
        undoManyTimesRound();
        undoIsNotUndone();
        everyChangeIsRecorded();
        everyChangeIsUndone();
        noQuestionIsRecorded();
        noRefusedCallIsRecorded();
        aRefusedCallDropsNothing();
        undoLeavesTheImages();
        keepTheFirstAndTheLastImage();
        keepNoImage();
        keepIsNoChange();
        keepReplacesWhatItKept();
        keepTakesEverything();
        keepTakesNoHistory();
        keepTakesNoImages();
        backWithNothingKept();
        backToNoImage();
        backLeavesTheImage();
        backIsRecordedBehindTheOthers();
        backToWhatIsPresent();
        backAsTheNinth();
        checks.end();
    }

    private static LoopSlicer afterSets(int sets) {
        LoopSlicer x = new LoopSlicer();
        for (int value = 1; value <= sets; value++) {
            x.set(5, value);
        }
        return x;
    }

    // "A history of at most 8 states is kept: a change that returns no error code records
    // everything before it, except the images; if there are more than 8, the oldest one is
    // dropped; undo() removes the latest state and restores it." Promise 11: "Returns how many
    // changes can still be undone; STATE if there is none."

    private static void undoNone() {
        LoopSlicer x = new LoopSlicer();
        String due = Picture.ofAll(x);
        checks.due("new: undo()", x.undo(), -2);
        checks.due("new: undo() again", x.undo(), -2);
        checks.dueText("undo refused: the answers", Picture.ofAll(x), due);
    }

    private static void undoOne() {
        LoopSlicer x = afterSets(1);
        checks.due("told(6)", x.told(6), 1);
        checks.due("undo()", x.undo(), 0);
        checks.due("undone: setting(5)", x.setting(5), 1600);
        checks.due("undone: told(6)", x.told(6), 0);
        checks.due("undo() of none", x.undo(), -2);
        checks.due("not undone: setting(5)", x.setting(5), 1600);
    }

    private static void undoEight() {
        LoopSlicer x = afterSets(8);
        checks.due("eight: told(6)", x.told(6), 8);
        for (int value = 7; value >= 0; value--) {
            checks.due("eight: undo()", x.undo(), value);
            checks.due("eight: setting(5)", x.setting(5), value == 0 ? 1600 : value);
        }
        checks.due("eight undone: undo()", x.undo(), -2);
    }

    private static void undoTheNinth() {
        LoopSlicer x = afterSets(9);
        checks.due("nine: told(6)", x.told(6), 8);
        for (int left = 7; left >= 0; left--) {
            checks.due("nine: undo()", x.undo(), left);
            checks.due("nine: setting(5)", x.setting(5), left + 1);
        }
        checks.due("eight of nine undone: undo()", x.undo(), -2);
        checks.due("the oldest one is dropped: setting(5)", x.setting(5), 1);
    }

    private static void undoManyTimesRound() {
        // Five changes and three undone, over and over: the room for states is used again.
        LoopSlicer x = new LoopSlicer();
        int value = 1600;
        for (int round = 0; round < 20; round++) {
            for (int i = 0; i < 5; i++) {
                checks.due("round: set(5, ..)", x.set(5, value + 1), value);
                value++;
            }
            int due = Math.min(8, round == 0 ? 5 : round == 1 ? 7 : 8);
            checks.due("round: told(6)", x.told(6), due);
            for (int i = 1; i <= 3; i++) {
                value--;
                checks.due("round: undo()", x.undo(), due - i);
                checks.due("round: setting(5)", x.setting(5), value);
            }
        }
        for (int left = 4; left >= 0; left--) {
            value--;
            checks.due("at last: undo()", x.undo(), left);
            checks.due("at last: setting(5)", x.setting(5), value);
        }
        checks.due("at last: undo() of none", x.undo(), -2);
    }

    private static void undoIsNotUndone() {
        LoopSlicer x = afterSets(3);
        checks.due("undo()", x.undo(), 2);
        checks.due("undo() again", x.undo(), 1);
        checks.due("undone twice: setting(5)", x.setting(5), 1);
        // What was undone is gone when another change comes.
        x.set(5, 77);
        checks.due("told(6)", x.told(6), 2);
        checks.due("undo() of it", x.undo(), 1);
        checks.due("undone: setting(5)", x.setting(5), 1);
    }

    /** Makes one change of each kind, so that it changes something; tells its name. */
    private static String change(LoopSlicer x, int kind) {
        switch (kind) {
            case 0:
                return "begin(5), which answered " + x.begin(5);
            case 1:
                return "sound(1, 3, 9), which answered " + x.sound(1, 3, 9);
            case 2:
                return "set(8, 9), which answered " + x.set(8, 9);
            case 3:
                return "find(), which answered " + x.find();
            case 4:
                return "mark(7), which answered " + x.mark(7);
            case 5:
                return "unmark(2), which answered " + x.unmark(2);
            case 6:
                return "moveMark(1, 3), which answered " + x.moveMark(1, 3);
            case 7:
                return "swap(0, 1), which answered " + x.swap(0, 1);
            case 8:
                return "reverse(), which answered " + x.reverse();
            default:
                return "back(1), which answered " + x.back(1);
        }
    }

    private static final int KINDS = 10;

    private static LoopSlicer beforeChange() {
        LoopSlicer x = new LoopSlicer();
        x.keep(1);
        x.begin(8);
        x.sound(6, 7, 700);
        x.mark(2);
        x.mark(4);
        x.swap(1, 2);
        return x;
    }

    private static void everyChangeIsRecorded() {
        for (int kind = 0; kind < KINDS; kind++) {
            LoopSlicer x = beforeChange();
            checks.due("before: told(6)", x.told(6), 5);
            String call = change(x, kind);
            checks.due("told(6) after " + call, x.told(6), 6);
        }
    }

    private static void everyChangeIsUndone() {
        for (int kind = 0; kind < KINDS; kind++) {
            LoopSlicer x = beforeChange();
            String due = Picture.ofAll(x);
            String call = change(x, kind);
            String changed = Picture.ofAll(x);
            checks.due("a difference after " + call, changed.equals(due) ? 0 : 1, 1);
            checks.due("undo() after " + call, x.undo(), 5);
            checks.dueText("the answers after undo() after " + call, Picture.ofAll(x), due);
        }
    }

    private static void noQuestionIsRecorded() {
        LoopSlicer x = beforeChange();
        String due = Picture.ofAll(x);
        x.nearTarget(200);
        x.thresholdFor(2);
        x.marksWith(1);
        x.keep(0);
        checks.dueText("asked: the answers", Picture.ofAll(x), due);
        checks.due("asked: told(6)", x.told(6), 5);
    }

    private static void refuse(LoopSlicer x) {
        checks.due("begin(65)", x.begin(65), -1);
        checks.due("sound(0, 8, 0)", x.sound(0, 8, 0), -1);
        checks.due("set(9, 0)", x.set(9, 0), -1);
        checks.due("mark(8)", x.mark(8), -1);
        checks.due("mark(2)", x.mark(2), -2);
        checks.due("unmark(0)", x.unmark(0), -1);
        checks.due("moveMark(1, 8)", x.moveMark(1, 8), -1);
        checks.due("moveMark(1, 4)", x.moveMark(1, 4), -2);
        checks.due("swap(0, 3)", x.swap(0, 3), -1);
        checks.due("back(2)", x.back(2), -1);
        checks.due("back(0)", x.back(0), -2);
        checks.due("keep(2)", x.keep(2), -1);
    }

    private static void noRefusedCallIsRecorded() {
        LoopSlicer x = beforeChange();
        String due = Picture.ofAll(x);
        refuse(x);
        checks.due("refused: told(6)", x.told(6), 5);
        checks.dueText("refused: the answers", Picture.ofAll(x), due);
        checks.due("refused: undo()", x.undo(), 4);
        checks.dueRow("the swap undone: order", x::order, 0, 1, 2, -1);
    }

    private static void aRefusedCallDropsNothing() {
        LoopSlicer x = beforeChange();
        x.set(5, 10);
        x.set(5, 20);
        x.set(5, 30);
        checks.due("full: told(6)", x.told(6), 8);
        refuse(x);
        for (int left = 7; left >= 0; left--) {
            checks.due("full, refused: undo()", x.undo(), left);
        }
        // The first of the eight is the begin(8), before which there were 16 frames.
        checks.due("all undone: told(0)", x.told(0), 16);
        checks.due("all undone: undo()", x.undo(), -2);
    }

    private static void undoLeavesTheImages() {
        LoopSlicer x = new LoopSlicer();
        x.set(5, 10);
        x.keep(0);
        x.undo();
        x.set(5, 20);
        x.keep(1);
        x.undo();
        checks.due("undone: setting(5)", x.setting(5), 1600);
        checks.due("back(0)", x.back(0), 1);
        checks.due("back(0): setting(5)", x.setting(5), 10);
        checks.due("back(1)", x.back(1), 1);
        checks.due("back(1): setting(5)", x.setting(5), 20);
        x.undo();
        x.undo();
        checks.due("both undone: setting(5)", x.setting(5), 1600);
        checks.due("back(1) again", x.back(1), 1);
        checks.due("back(1) again: setting(5)", x.setting(5), 20);
    }

    // Promise 24: "Keeps everything, except the images and what can be undone, in an image,
    // replacing what it kept before. (This is no change.) i: the image, 0 or 1. Returns the number
    // of marks; BAD if there is no such image."

    private static void keepTheFirstAndTheLastImage() {
        LoopSlicer x = new LoopSlicer();
        checks.due("one mark: keep(0)", x.keep(0), 1);
        checks.due("one mark: keep(1)", x.keep(1), 1);
        LoopSlicer y = Made.withSixteen(64);
        checks.due("16 marks: keep(0)", y.keep(0), 16);
        y.begin(1);
        checks.due("16 marks: keep(1)", y.keep(1), 1);
        checks.due("back(0)", y.back(0), 16);
        checks.due("back(0): slice(15, 0)", y.slice(15, 0), 15);
        checks.due("back(1)", y.back(1), 1);
        checks.due("back(1): told(0)", y.told(0), 1);
    }

    private static void keepNoImage() {
        LoopSlicer x = beforeChange();
        String due = Picture.ofAll(x);
        int[] wrong = {-1, 2, 3, Integer.MIN_VALUE, Integer.MAX_VALUE};
        for (int i : wrong) {
            checks.due("keep(" + i + ")", x.keep(i), -1);
        }
        checks.dueText("keep refused: the answers", Picture.ofAll(x), due);
        checks.due("keep refused: back(0)", x.back(0), -2);
        checks.due("keep refused: back(1)", x.back(1), 1);
    }

    private static void keepIsNoChange() {
        LoopSlicer x = new LoopSlicer();
        x.keep(0);
        x.keep(1);
        checks.due("kept: told(6)", x.told(6), 0);
        checks.due("kept: undo()", x.undo(), -2);
        LoopSlicer y = afterSets(8);
        y.keep(0);
        checks.due("eight, kept: told(6)", y.told(6), 8);
        checks.due("eight, kept: undo()", y.undo(), 7);
        checks.due("eight, kept: setting(5)", y.setting(5), 7);
    }

    private static void keepReplacesWhatItKept() {
        LoopSlicer x = new LoopSlicer();
        x.mark(4);
        x.mark(8);
        checks.due("keep(0)", x.keep(0), 3);
        checks.due("keep(1)", x.keep(1), 3);
        x.unmark(1);
        checks.due("keep(0) again", x.keep(0), 2);
        x.begin(3);
        checks.due("back(0)", x.back(0), 2);
        checks.due("back(0): slice(1, 0)", x.slice(1, 0), 8);
        checks.due("back(0): slice(2, 0)", x.slice(2, 0), -1);
        checks.due("back(1)", x.back(1), 3);
        checks.due("back(1): slice(1, 0)", x.slice(1, 0), 4);
    }

    private static void keepTakesEverything() {
        LoopSlicer x = Made.withEnergies(9, 8, 7, 6, 5);
        x.mark(1);
        x.mark(4);
        x.swap(0, 2);
        int[] values = {7, 8, 9, 10, 111, 12, 13, 1, 15};
        for (int setting = 0; setting < 9; setting++) {
            x.set(setting, values[setting]);
        }
        x.keep(0);
        String due = Picture.ofState(x);
        x.begin(64);
        x.sound(0, 63, 1);
        for (int setting = 0; setting < 9; setting++) {
            x.set(setting, setting == 4 ? 200 : setting == 7 ? 0 : 14);
        }
        x.mark(30);
        x.reverse();
        checks.due("back(0)", x.back(0), 3);
        checks.dueText("back: the state", Picture.ofState(x), due);
    }

    private static void keepTakesNoHistory() {
        LoopSlicer x = afterSets(2);
        x.keep(0);
        x.set(5, 3);
        x.set(5, 4);
        checks.due("four: told(6)", x.told(6), 4);
        x.back(0);
        checks.due("back: told(6)", x.told(6), 5);
        checks.due("back: setting(5)", x.setting(5), 2);
        checks.due("undo()", x.undo(), 4);
        checks.due("undone: setting(5)", x.setting(5), 4);
        checks.due("undo()", x.undo(), 3);
        checks.due("undone twice: setting(5)", x.setting(5), 3);
    }

    private static void keepTakesNoImages() {
        LoopSlicer x = new LoopSlicer();
        x.set(5, 10);
        x.keep(0);
        x.keep(1);
        x.set(5, 20);
        x.keep(0);
        // The image 1 was kept when the image 0 kept the target 10.
        x.back(1);
        checks.due("back(1): setting(5)", x.setting(5), 10);
        x.back(0);
        checks.due("back(0): setting(5)", x.setting(5), 20);
    }

    // Promise 25: "Makes what an image keeps the present state; the image stays. This is a change:
    // it is recorded behind those that are recorded already. Returns the number of marks then; BAD
    // if there is no such image; STATE if nothing was kept in it."

    private static void backWithNothingKept() {
        LoopSlicer x = Made.withMarks(8, 4);
        String due = Picture.ofAll(x);
        checks.due("back(0)", x.back(0), -2);
        checks.due("back(1)", x.back(1), -2);
        x.keep(0);
        checks.due("kept in 0: back(1)", x.back(1), -2);
        checks.dueText("back refused: the answers", Picture.ofAll(x), due);
        LoopSlicer y = Made.withMarks(8, 4);
        y.keep(1);
        checks.due("kept in 1: back(0)", y.back(0), -2);
        checks.due("kept in 1: back(1)", y.back(1), 2);
    }

    private static void backToNoImage() {
        LoopSlicer x = Made.withMarks(8, 4);
        String due = Picture.ofAll(x);
        int[] wrong = {-1, 2, 3, Integer.MIN_VALUE, Integer.MAX_VALUE};
        for (int i : wrong) {
            checks.due("back(" + i + ")", x.back(i), -1);
        }
        x.keep(0);
        x.keep(1);
        checks.due("both kept: back(2)", x.back(2), -1);
        checks.due("both kept: back(-1)", x.back(-1), -1);
        checks.dueText("back refused: the answers", Picture.ofAll(x), due);
    }

    private static void backLeavesTheImage() {
        LoopSlicer x = Made.withMarks(8, 2, 5);
        x.reverse();
        x.keep(0);
        String due = Picture.ofState(x);
        for (int kind = 0; kind < KINDS - 1; kind++) {
            change(x, kind);
            checks.due("back(0)", x.back(0), 3);
            checks.dueText("back(0): the state", Picture.ofState(x), due);
        }
    }

    private static void backIsRecordedBehindTheOthers() {
        LoopSlicer x = new LoopSlicer();
        x.keep(0);
        x.set(5, 10);
        checks.due("back(0)", x.back(0), 1);
        checks.due("back: told(6)", x.told(6), 2);
        checks.due("back: setting(5)", x.setting(5), 1600);
        checks.due("undo() of back", x.undo(), 1);
        checks.due("back undone: setting(5)", x.setting(5), 10);
        checks.due("undo() of set", x.undo(), 0);
        checks.due("set undone: setting(5)", x.setting(5), 1600);
    }

    private static void backToWhatIsPresent() {
        LoopSlicer x = new LoopSlicer();
        x.keep(1);
        checks.due("back(1)", x.back(1), 1);
        checks.due("back(1): told(6)", x.told(6), 1);
        checks.due("back(1) again", x.back(1), 1);
        checks.due("back(1) again: told(6)", x.told(6), 2);
    }

    private static void backAsTheNinth() {
        LoopSlicer x = new LoopSlicer();
        x.keep(0);
        for (int value = 1; value <= 8; value++) {
            x.set(5, value);
        }
        x.back(0);
        checks.due("ninth: told(6)", x.told(6), 8);
        checks.due("ninth: undo()", x.undo(), 7);
        checks.due("ninth undone: setting(5)", x.setting(5), 8);
        for (int left = 6; left >= 0; left--) {
            checks.due("ninth: undo()", x.undo(), left);
        }
        checks.due("the oldest one is dropped: setting(5)", x.setting(5), 1);
        checks.due("ninth: undo() of none", x.undo(), -2);
    }
}
