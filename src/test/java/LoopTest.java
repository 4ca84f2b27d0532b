/** Promises 1 to 4, 13 and 14: a new object, begin, sound, set, setting, energy. */
final class LoopTest {
    private static final int[] LEAST = {1, 1, 1, 10, 100, 1, 1, 0, 0};
    private static final int[] MOST = {1000, 999, 16, 100, 1000, 200000, 32, 1, 500};
    private static final int[] FIRST = {100, 100, 2, 50, 200, 1600, 16, 0, 50};
    private static final Checks checks = new Checks();

    public static void main(String[] args) {
        constants();
        newObject();
        beginsAnew();
        beginRefuses();
        soundSets();
        soundRefuses();
        setChanges();
        setRefuses();
        settingAndEnergyRefuse();
        checks.end();
    }

    private static void constants() {
        checks.due("BAD", LoopSlicer.BAD, -1);
        checks.due("STATE", LoopSlicer.STATE, -2);
        checks.due("FULL", LoopSlicer.FULL, -3);
        checks.due("NONE", LoopSlicer.NONE, -9);
    }

    private static void newObject() {
        LoopSlicer x = new LoopSlicer();
        checks.due("new: told(0)", x.told(0), 16);
        checks.due("new: told(1)", x.told(1), 1600);
        checks.due("new: told(2)", x.told(2), 1);
        checks.due("new: told(3)", x.told(3), 1);
        checks.due("new: told(6)", x.told(6), 0);
        checks.due("new: undo()", x.undo(), -2);
        checks.due("new: back(0)", x.back(0), -2);
        checks.due("new: back(1)", x.back(1), -2);
        checks.due("new: slice(0, 0)", x.slice(0, 0), 0);
        checks.due("new: order(0)", x.order(0), 0);
        for (int frame = 0; frame < 16; frame++) {
            checks.due("new: energy(" + frame + ")", x.energy(frame), 0);
        }
        for (int setting = 0; setting < 9; setting++) {
            checks.due("new: setting(" + setting + ")", x.setting(setting), FIRST[setting]);
        }
    }

    private static void beginsAnew() {
        LoopSlicer x = new LoopSlicer();
        x.set(0, 7);
        x.sound(0, 15, 5);
        x.mark(4);
        x.mark(8);
        x.reverse();
        checks.due("begin(64)", x.begin(64), 16);
        checks.due("begun: told(0)", x.told(0), 64);
        checks.due("begun: told(1)", x.told(1), 448);
        checks.due("begun: told(2)", x.told(2), 1);
        checks.due("begun: told(6)", x.told(6), 6);
        checks.due("begun: order(0)", x.order(0), 0);
        checks.due("begun: order(1)", x.order(1), -1);
        for (int frame = 0; frame < 64; frame++) {
            checks.due("begun: energy(" + frame + ")", x.energy(frame), 0);
        }
        checks.due("begun: undo()", x.undo(), 5);
        checks.due("begun, undone: told(0)", x.told(0), 16);
        checks.due("begun, undone: told(2)", x.told(2), 3);
        checks.due("begun, undone: order(0)", x.order(0), 2);
        checks.due("begun, undone: energy(15)", x.energy(15), 5);
        // What lay behind the end of a shorter loop does not come again with a longer one.
        x.begin(1);
        checks.due("begin(16)", x.begin(16), 1);
        checks.due("begun: energy(15)", x.energy(15), 0);
    }

    private static void beginRefuses() {
        LoopSlicer x = new LoopSlicer();
        int[] wrong = {0, -1, 65, Integer.MIN_VALUE, Integer.MAX_VALUE};
        for (int frames : wrong) {
            checks.due("begin(" + frames + ")", x.begin(frames), -1);
        }
        checks.due("refused: told(0)", x.told(0), 16);
        checks.due("refused: told(6)", x.told(6), 0);
        checks.due("begin(1)", x.begin(1), 16);
        checks.due("begin(64)", x.begin(64), 1);
    }

    private static void soundSets() {
        LoopSlicer x = new LoopSlicer();
        checks.due("sound(0, 0, 7)", x.sound(0, 0, 7), 0);
        checks.due("sound(2, 4, 999)", x.sound(2, 4, 999), 0);
        checks.due("energy(1)", x.energy(1), 0);
        checks.due("energy(2)", x.energy(2), 999);
        checks.due("energy(4)", x.energy(4), 999);
        checks.due("energy(5)", x.energy(5), 0);
        checks.due("sound(0, 15, 1)", x.sound(0, 15, 1), 7 + 3 * 999);
        checks.due("sound(0, 15, 0)", x.sound(0, 15, 0), 16);
        checks.due("told(6)", x.told(6), 4);
        checks.due("undo()", x.undo(), 3);
        checks.due("energy(15)", x.energy(15), 1);
    }

    private static void soundRefuses() {
        LoopSlicer x = new LoopSlicer();
        int[][] wrong = {{-1, 0, 0}, {0, 16, 0}, {16, 16, 0}, {3, 2, 0}, {0, 0, -1}, {0, 0, 1000},
            {0, Integer.MAX_VALUE, 0}, {Integer.MIN_VALUE, 3, 0}, {0, -1, 0}};
        for (int[] w : wrong) {
            String call = "sound(" + w[0] + ", " + w[1] + ", " + w[2] + ")";
            checks.due(call, x.sound(w[0], w[1], w[2]), -1);
        }
        checks.due("refused: told(6)", x.told(6), 0);
        checks.due("refused: energy(0)", x.energy(0), 0);
    }

    private static void setChanges() {
        for (int setting = 0; setting < 9; setting++) {
            LoopSlicer x = new LoopSlicer();
            String call = "set(" + setting + ", ..)";
            checks.due(call + " to the least", x.set(setting, LEAST[setting]), FIRST[setting]);
            checks.due(call + " to the most", x.set(setting, MOST[setting]), LEAST[setting]);
            checks.due(call + " again", x.set(setting, MOST[setting]), MOST[setting]);
            checks.due(call + ": told(6)", x.told(6), 3);
            for (int other = 0; other < 9; other++) {
                int due = other == setting ? MOST[other] : FIRST[other];
                checks.due(call + ": setting(" + other + ")", x.setting(other), due);
            }
            x.undo();
            x.undo();
            checks.due(call + " undone twice", x.setting(setting), LEAST[setting]);
        }
    }

    private static void setRefuses() {
        LoopSlicer x = new LoopSlicer();
        for (int setting = 0; setting < 9; setting++) {
            String call = "set(" + setting + ", ..)";
            checks.due(call + " too little", x.set(setting, LEAST[setting] - 1), -1);
            checks.due(call + " too much", x.set(setting, MOST[setting] + 1), -1);
            checks.due(call + " least int", x.set(setting, Integer.MIN_VALUE), -1);
            checks.due(call + " most int", x.set(setting, Integer.MAX_VALUE), -1);
            checks.due(call + " refused", x.setting(setting), FIRST[setting]);
        }
        checks.due("set(-1, 1)", x.set(-1, 1), -1);
        checks.due("set(9, 1)", x.set(9, 1), -1);
        checks.due("refused: told(6)", x.told(6), 0);
    }

    private static void settingAndEnergyRefuse() {
        LoopSlicer x = new LoopSlicer();
        int[] wrong = {-1, 64, 65, Integer.MIN_VALUE, Integer.MAX_VALUE};
        for (int i : wrong) {
            checks.due("setting(" + i + ")", x.setting(i), -1);
            checks.due("energy(" + i + ")", x.energy(i), -1);
        }
        checks.due("setting(9)", x.setting(9), -1);
        checks.due("energy(16)", x.energy(16), -1);
        x.begin(64);
        checks.due("energy(63)", x.energy(63), 0);
        checks.due("energy(64)", x.energy(64), -1);
    }
}
