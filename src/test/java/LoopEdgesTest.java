/** Edges of the promises 1 to 4, 13 and 14 and of "THE LOOP": a new object, begin, sound, set. */
final class LoopEdgesTest {
    private static final Checks checks = new Checks();

    public static void main(String[] args) {
        aNewObjectHasSixteenFrames();
        aNewObjectHasOneMark();
        aNewObjectKeepsNothing();
        aNewObjectUndoesNothing();
        aNewObjectIsNotTouchedByOthers();
        theLeastLoop();
        theGreatestLoop();
        loopsTooSmallAndTooLarge();
        beginWithTheSameFrames();
        beginForgetsSixteenMarks();
        beginLeavesTheSettings();
        beginAgainPutsTheOrderAnew();
        beginIsUndone();
        soundOfTheFirstAndTheLastFrame();
        soundOfAllFrames();
        soundBesideTheLoop();
        soundFromBehindItsEnd();
        theLeastAndTheGreatestEnergy();
        energiesTooSmallAndTooLarge();
        soundOfTheSameEnergyIsAChange();
        soundLeavesMarksAndOrder();
        theFirstAndTheLastSetting();
        noSuchSetting();
        theLeastAndTheGreatestValues();
        valuesTooSmallAndTooLarge();
        settingTheSameValueIsAChange();
        settingsLeaveOneAnother();
        energyOfTheFirstAndTheLastFrame();
        checks.end();
    }

    // Promise 1: "Creates a loop of 16 frames without energy, with one mark; the images keep
    // nothing, and nothing can be undone."

    private static void aNewObjectHasSixteenFrames() {
        LoopSlicer x = new LoopSlicer();
        checks.due("new: told(0)", x.told(0), 16);
        checks.due("new: told(1)", x.told(1), 1600);
        for (int frame = 0; frame < 16; frame++) {
            checks.due("new: energy(" + frame + ")", x.energy(frame), 0);
        }
        checks.due("new: energy(16)", x.energy(16), -1);
    }

    private static void aNewObjectHasOneMark() {
        LoopSlicer x = new LoopSlicer();
        checks.due("new: told(2)", x.told(2), 1);
        checks.dueRow("new: slice(0, ..)", what -> x.slice(0, what),
                0, 1600, 1600, -9, 0, 0, 50, 0);
        checks.due("new: slice(1, 0)", x.slice(1, 0), -1);
        checks.due("new: order(0)", x.order(0), 0);
        checks.due("new: order(1)", x.order(1), -1);
        checks.due("new: warp(0)", x.warp(0), 1);
    }

    private static void aNewObjectKeepsNothing() {
        LoopSlicer x = new LoopSlicer();
        checks.due("new: back(0)", x.back(0), -2);
        checks.due("new: back(1)", x.back(1), -2);
        // A new loop fills no image either.
        x.begin(16);
        checks.due("begun: back(0)", x.back(0), -2);
        checks.due("begun: back(1)", x.back(1), -2);
    }

    private static void aNewObjectUndoesNothing() {
        LoopSlicer x = new LoopSlicer();
        checks.due("new: told(6)", x.told(6), 0);
        checks.due("new: undo()", x.undo(), -2);
        checks.due("new, not undone: told(6)", x.told(6), 0);
    }

    private static void aNewObjectIsNotTouchedByOthers() {
        LoopSlicer before = new LoopSlicer();
        String due = Picture.ofAll(before);
        LoopSlicer other = Made.withSixteen(64);
        for (int setting = 0; setting < 9; setting++) {
            other.set(setting, setting == 4 ? 300 : 12);
        }
        other.sound(0, 15, 999);
        other.keep(0);
        checks.dueText("the answers of an older object", Picture.ofAll(before), due);
        LoopSlicer after = new LoopSlicer();
        checks.dueText("the answers of a newer object", Picture.ofAll(after), due);
        checks.due("newer: back(0)", after.back(0), -2);
    }

    // "The loop has F frames, 0 to F - 1, with F from 1 to 64 (16 at first), each with an energy
    // from 0 to 999 (0 at first)." Promise 2: "Begins a new loop of frames without energy, with
    // one mark. The settings stay. This is a change."

    private static void theLeastLoop() {
        LoopSlicer x = new LoopSlicer();
        checks.due("begin(1)", x.begin(1), 16);
        checks.due("one frame: told(0)", x.told(0), 1);
        checks.due("one frame: told(1)", x.told(1), 100);
        checks.due("one frame: energy(0)", x.energy(0), 0);
        checks.due("one frame: energy(1)", x.energy(1), -1);
        checks.due("one frame: sound(0, 0, 999)", x.sound(0, 0, 999), 0);
        checks.due("one frame: sound(0, 1, 999)", x.sound(0, 1, 999), -1);
        checks.due("one frame: find()", x.find(), 1);
        checks.due("one frame: slice(0, 1)", x.slice(0, 1), 100);
        x.set(0, 1);
        checks.due("one frame of one sample: told(1)", x.told(1), 1);
    }

    private static void theGreatestLoop() {
        LoopSlicer x = new LoopSlicer();
        checks.due("begin(64)", x.begin(64), 16);
        checks.due("64 frames: told(0)", x.told(0), 64);
        checks.due("64 frames: energy(63)", x.energy(63), 0);
        checks.due("64 frames: energy(64)", x.energy(64), -1);
        checks.due("64 frames: sound(63, 63, 1)", x.sound(63, 63, 1), 0);
        checks.due("64 frames: sound(63, 64, 1)", x.sound(63, 64, 1), -1);
        x.set(0, 1000);
        checks.due("64 frames of 1000 samples: told(1)", x.told(1), 64000);
        checks.due("64 frames: begin(2)", x.begin(2), 64);
    }

    private static void loopsTooSmallAndTooLarge() {
        LoopSlicer x = Made.withMarks(5, 2);
        String due = Picture.ofAll(x);
        checks.due("begin(0)", x.begin(0), -1);
        checks.due("begin(65)", x.begin(65), -1);
        checks.due("begin(-1)", x.begin(-1), -1);
        checks.due("begin(least int)", x.begin(Integer.MIN_VALUE), -1);
        checks.due("begin(greatest int)", x.begin(Integer.MAX_VALUE), -1);
        checks.dueText("begin refused: the answers", Picture.ofAll(x), due);
    }

    private static void beginWithTheSameFrames() {
        LoopSlicer x = Made.withEnergies(5, 900, 7);
        x.find();
        int changes = x.told(6);
        checks.due("begin(3) again", x.begin(3), 3);
        checks.dueRow("begun again: energy", x::energy, 0, 0, 0, -1);
        checks.due("begun again: told(6)", x.told(6), changes + 1);
    }

    private static void beginForgetsSixteenMarks() {
        LoopSlicer x = Made.withSixteen(16);
        checks.due("16 marks: told(2)", x.told(2), 16);
        checks.due("16 marks: begin(16)", x.begin(16), 16);
        checks.due("begun: told(2)", x.told(2), 1);
        checks.due("begun: slice(0, 0)", x.slice(0, 0), 0);
        checks.due("begun: slice(0, 1)", x.slice(0, 1), 1600);
        checks.due("begun: slice(1, 0)", x.slice(1, 0), -1);
    }

    private static void beginLeavesTheSettings() {
        LoopSlicer x = new LoopSlicer();
        int[] values = {7, 8, 9, 10, 111, 12, 13, 1, 15};
        for (int setting = 0; setting < 9; setting++) {
            x.set(setting, values[setting]);
        }
        x.begin(20);
        checks.dueRow("begun: setting", x::setting, values);
    }

    private static void beginAgainPutsTheOrderAnew() {
        LoopSlicer x = Made.withMarks(8, 2, 4);
        x.reverse();
        x.begin(8);
        checks.dueRow("begun: order", x::order, 0, -1);
        checks.due("begun: slice(0, 5)", x.slice(0, 5), 0);
    }

    private static void beginIsUndone() {
        LoopSlicer x = Made.withEnergies(1, 2, 3, 4, 5, 6);
        x.mark(2);
        x.mark(5);
        x.swap(0, 2);
        String due = Picture.ofState(x);
        x.begin(64);
        x.undo();
        checks.dueText("begin(64) undone: the state", Picture.ofState(x), due);
        x.begin(1);
        x.undo();
        checks.dueText("begin(1) undone: the state", Picture.ofState(x), due);
    }

    // Promise 3: "Sets the energy of some frames. This is a change." "Returns the sum of the
    // energies that they had; BAD if there is no such frame, to is less than from, or energy is
    // out of range."

    private static void soundOfTheFirstAndTheLastFrame() {
        LoopSlicer x = Made.withMarks(6);
        checks.due("sound(0, 0, 11)", x.sound(0, 0, 11), 0);
        checks.due("sound(5, 5, 22)", x.sound(5, 5, 22), 0);
        checks.dueRow("first and last: energy", x::energy, 11, 0, 0, 0, 0, 22);
        checks.due("sound(0, 0, 1)", x.sound(0, 0, 1), 11);
        checks.due("sound(5, 5, 1)", x.sound(5, 5, 1), 22);
    }

    private static void soundOfAllFrames() {
        LoopSlicer x = Made.withMarks(64);
        checks.due("sound(0, 63, 999)", x.sound(0, 63, 999), 0);
        checks.due("sound(0, 63, 0)", x.sound(0, 63, 0), 64 * 999);
        checks.due("sound(0, 63, 1)", x.sound(0, 63, 1), 0);
        checks.due("sound(1, 62, 5)", x.sound(1, 62, 5), 62);
        checks.due("energy(0)", x.energy(0), 1);
        checks.due("energy(1)", x.energy(1), 5);
        checks.due("energy(62)", x.energy(62), 5);
        checks.due("energy(63)", x.energy(63), 1);
    }

    private static void soundBesideTheLoop() {
        LoopSlicer x = Made.withEnergies(3, 4, 5);
        String due = Picture.ofAll(x);
        checks.due("sound(-1, 0, 9)", x.sound(-1, 0, 9), -1);
        checks.due("sound(-1, -1, 9)", x.sound(-1, -1, 9), -1);
        checks.due("sound(2, 3, 9)", x.sound(2, 3, 9), -1);
        checks.due("sound(3, 3, 9)", x.sound(3, 3, 9), -1);
        checks.due("sound(least int, 0, 9)", x.sound(Integer.MIN_VALUE, 0, 9), -1);
        checks.due("sound(0, greatest int, 9)", x.sound(0, Integer.MAX_VALUE, 9), -1);
        checks.dueText("sound refused: the answers", Picture.ofAll(x), due);
    }

    private static void soundFromBehindItsEnd() {
        LoopSlicer x = Made.withEnergies(3, 4, 5);
        String due = Picture.ofAll(x);
        checks.due("sound(1, 0, 9)", x.sound(1, 0, 9), -1);
        checks.due("sound(2, 1, 9)", x.sound(2, 1, 9), -1);
        checks.dueText("sound refused: the answers", Picture.ofAll(x), due);
        checks.due("sound(1, 1, 9)", x.sound(1, 1, 9), 4);
    }

    private static void theLeastAndTheGreatestEnergy() {
        LoopSlicer x = Made.withMarks(2);
        checks.due("sound(1, 1, 999)", x.sound(1, 1, 999), 0);
        checks.due("energy(1)", x.energy(1), 999);
        checks.due("sound(1, 1, 0)", x.sound(1, 1, 0), 999);
        checks.due("energy(1)", x.energy(1), 0);
    }

    private static void energiesTooSmallAndTooLarge() {
        LoopSlicer x = Made.withEnergies(3, 4, 5);
        String due = Picture.ofAll(x);
        checks.due("sound(0, 2, -1)", x.sound(0, 2, -1), -1);
        checks.due("sound(0, 2, 1000)", x.sound(0, 2, 1000), -1);
        checks.due("sound(0, 2, least int)", x.sound(0, 2, Integer.MIN_VALUE), -1);
        checks.due("sound(0, 2, greatest int)", x.sound(0, 2, Integer.MAX_VALUE), -1);
        checks.dueText("sound refused: the answers", Picture.ofAll(x), due);
    }

    private static void soundOfTheSameEnergyIsAChange() {
        LoopSlicer x = new LoopSlicer();
        checks.due("sound(0, 15, 0)", x.sound(0, 15, 0), 0);
        checks.due("told(6)", x.told(6), 1);
        checks.due("undo()", x.undo(), 0);
    }

    private static void soundLeavesMarksAndOrder() {
        LoopSlicer x = Made.withMarks(8, 3, 5);
        x.reverse();
        x.sound(4, 4, 999);
        checks.dueRow("sounded: marks", slice -> x.slice(slice, 0), 0, 3, 5, -1);
        checks.dueRow("sounded: order", x::order, 2, 1, 0, -1);
    }

    // "There are these settings (in parentheses: range; first value)". Promise 4: "Returns the
    // previous value; BAD if there is no such setting or the value is out of its range."

    private static final int[] LEAST = {1, 1, 1, 10, 100, 1, 1, 0, 0};
    private static final int[] GREATEST = {1000, 999, 16, 100, 1000, 200000, 32, 1, 500};
    private static final int[] FIRST = {100, 100, 2, 50, 200, 1600, 16, 0, 50};

    private static void theFirstAndTheLastSetting() {
        LoopSlicer x = new LoopSlicer();
        checks.dueRow("new: setting", x::setting, FIRST);
        checks.due("set(0, 3)", x.set(0, 3), 100);
        checks.due("setting(0)", x.setting(0), 3);
        checks.due("set(8, 4)", x.set(8, 4), 50);
        checks.due("setting(8)", x.setting(8), 4);
    }

    private static void noSuchSetting() {
        LoopSlicer x = new LoopSlicer();
        String due = Picture.ofAll(x);
        int[] wrong = {-1, 9, Integer.MIN_VALUE, Integer.MAX_VALUE};
        for (int setting : wrong) {
            checks.due("set(" + setting + ", 100)", x.set(setting, 100), -1);
            checks.due("setting(" + setting + ")", x.setting(setting), -1);
        }
        checks.dueText("set refused: the answers", Picture.ofAll(x), due);
    }

    private static void theLeastAndTheGreatestValues() {
        for (int setting = 0; setting < 9; setting++) {
            LoopSlicer x = new LoopSlicer();
            String call = "set(" + setting + ", ..)";
            checks.due(call + " to the least", x.set(setting, LEAST[setting]), FIRST[setting]);
            checks.due(call + ": setting", x.setting(setting), LEAST[setting]);
            int previous = x.set(setting, GREATEST[setting]);
            checks.due(call + " to the greatest", previous, LEAST[setting]);
            checks.due(call + ": setting", x.setting(setting), GREATEST[setting]);
        }
    }

    private static void valuesTooSmallAndTooLarge() {
        for (int setting = 0; setting < 9; setting++) {
            LoopSlicer x = new LoopSlicer();
            String due = Picture.ofAll(x);
            String call = "set(" + setting + ", ..)";
            checks.due(call + " below the least", x.set(setting, LEAST[setting] - 1), -1);
            checks.due(call + " above the greatest", x.set(setting, GREATEST[setting] + 1), -1);
            checks.due(call + " to the least int", x.set(setting, Integer.MIN_VALUE), -1);
            checks.due(call + " to the greatest int", x.set(setting, Integer.MAX_VALUE), -1);
            checks.dueText(call + " refused: the answers", Picture.ofAll(x), due);
        }
    }

    private static void settingTheSameValueIsAChange() {
        LoopSlicer x = new LoopSlicer();
        checks.due("set(5, 1600)", x.set(5, 1600), 1600);
        checks.due("told(6)", x.told(6), 1);
    }

    private static void settingsLeaveOneAnother() {
        // The least and the greatest warp meet at 100, and neither draws the other one.
        LoopSlicer x = new LoopSlicer();
        x.set(3, 100);
        x.set(4, 100);
        x.set(0, 1);
        checks.dueRow("set: setting", x::setting, 1, 100, 2, 100, 100, 1600, 16, 0, 50);
        checks.due("one sample a frame: told(1)", x.told(1), 16);
    }

    // Promise 14: "Returns its energy; BAD if there is no such frame."

    private static void energyOfTheFirstAndTheLastFrame() {
        LoopSlicer x = Made.withEnergies(12, 0, 34);
        checks.due("energy(0)", x.energy(0), 12);
        checks.due("energy(2)", x.energy(2), 34);
        checks.due("energy(-1)", x.energy(-1), -1);
        checks.due("energy(3)", x.energy(3), -1);
        checks.due("energy(least int)", x.energy(Integer.MIN_VALUE), -1);
        checks.due("energy(greatest int)", x.energy(Integer.MAX_VALUE), -1);
        // What lay behind the end of a shorter loop is no frame of it.
        x.begin(2);
        checks.due("of two frames: energy(2)", x.energy(2), -1);
    }
}
