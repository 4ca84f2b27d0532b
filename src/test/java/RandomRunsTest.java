/** Promises 1 to 25: made-up runs of 512 calls, each answer compared with the reference's. */
final class RandomRunsTest {
    private static final int RUNS = 200;
    private static final int CALLS = 512;
    private static final Checks checks = new Checks();

    private LoopSlicer x;
    private ReferenceSlicer y;
    private String run;

    public static void main(String[] args) {
        for (int seed = 1; seed <= RUNS && !checks.failed(); seed++) {
            checks.seed(seed);
            new RandomRunsTest().runAll(seed);
        }
        checks.end();
    }

    private void runAll(int seed) {
        x = new LoopSlicer();
        y = new ReferenceSlicer();
        for (int call = 0; call < CALLS && !checks.failed(); call++) {
            run = "seed " + seed + ", call " + call + ": ";
            int kind = checks.pick(0, 99);
            if (kind < 30) {
                changeLoop(kind);
            } else if (kind < 50) {
                changeMarks(kind);
            } else if (kind < 58) {
                goBack(kind);
            } else {
                ask(kind);
            }
        }
    }

    /** Mostly a number from..to, at times one just beyond, at times one far away. */
    private int number(int from, int to) {
        int kind = checks.pick(0, 39);
        if (kind == 0) {
            return from - 1;
        } else if (kind == 1) {
            return to + 1;
        } else if (kind == 2) {
            return checks.pick(0, 1) == 0 ? Integer.MIN_VALUE : Integer.MAX_VALUE;
        }
        return checks.pick(from, Math.max(from, to));
    }

    private void changeLoop(int kind) {
        if (kind == 0) {
            int frames = number(1, 64);
            checks.due(run + "begin(" + frames + ")", x.begin(frames), y.begin(frames));
        } else if (kind < 14) {
            int from = number(0, y.told(0) - 1);
            int to = checks.pick(0, 2) > 0 ? from : number(0, y.told(0) - 1);
            int energy = checks.pick(0, 4) == 0 ? 0 : number(0, 999);
            String call = run + "sound(" + from + ", " + to + ", " + energy + ")";
            checks.due(call, x.sound(from, to, energy), y.sound(from, to, energy));
        } else {
            int setting = number(0, 8);
            int value = valueFor(setting);
            String call = run + "set(" + setting + ", " + value + ")";
            checks.due(call, x.set(setting, value), y.set(setting, value));
        }
    }

    private int valueFor(int setting) {
        int[] least = {1, 1, 1, 10, 100, 1, 1, 0, 0};
        int[] most = {1000, 999, 16, 100, 1000, 200000, 32, 1, 500};
        if (setting < 0 || setting > 8 || checks.pick(0, 4) == 0) {
            return number(0, 1000);
        } else if (setting == 5 && checks.pick(0, 9) > 0) {
            // Otherwise the slices could hardly ever be laid on a grid.
            return Math.max(1, Math.min(200000, y.told(1) * checks.pick(40, 300) / 100));
        } else if (setting == 6 && checks.pick(0, 2) > 0) {
            return Math.min(32, y.told(0));
        } else if (setting == 7) {
            return checks.pick(0, 3) > 0 ? 1 : 0;
        } else if (setting == 2) {
            return number(1, 4);
        }
        return number(least[setting], most[setting]);
    }

    private void changeMarks(int kind) {
        int marks = y.told(2);
        if (kind < 36) {
            int frame = number(0, y.told(0) - 1);
            checks.due(run + "mark(" + frame + ")", x.mark(frame), y.mark(frame));
        } else if (kind == 36) {
            checks.due(run + "find()", x.find(), y.find());
        } else if (kind < 39) {
            int mark = number(0, marks - 1);
            checks.due(run + "unmark(" + mark + ")", x.unmark(mark), y.unmark(mark));
        } else if (kind < 43) {
            int mark = number(0, marks - 1);
            int near = y.slice(Math.max(0, Math.min(marks - 1, mark)), 0);
            int frame = checks.pick(0, 1) == 0 ? near + checks.pick(-2, 2) : number(0, 63);
            String call = run + "moveMark(" + mark + ", " + frame + ")";
            checks.due(call, x.moveMark(mark, frame), y.moveMark(mark, frame));
        } else if (kind < 48) {
            int one = number(0, marks - 1);
            int other = number(0, marks - 1);
            String call = run + "swap(" + one + ", " + other + ")";
            checks.due(call, x.swap(one, other), y.swap(one, other));
        } else {
            checks.due(run + "reverse()", x.reverse(), y.reverse());
        }
    }

    private void goBack(int kind) {
        int i = number(0, 1);
        if (kind < 54) {
            checks.due(run + "undo()", x.undo(), y.undo());
        } else if (kind < 56) {
            checks.due(run + "keep(" + i + ")", x.keep(i), y.keep(i));
        } else {
            checks.due(run + "back(" + i + ")", x.back(i), y.back(i));
        }
    }

    private void ask(int kind) {
        if (kind < 66) {
            int what = number(0, 6);
            checks.due(run + "told(" + what + ")", x.told(what), y.told(what));
        } else if (kind < 67) {
            int setting = number(0, 8);
            checks.due(run + "setting(" + setting + ")", x.setting(setting), y.setting(setting));
        } else if (kind < 68) {
            int frame = number(0, y.told(0) - 1);
            checks.due(run + "energy(" + frame + ")", x.energy(frame), y.energy(frame));
        } else if (kind < 80) {
            int slice = number(0, y.told(2) - 1);
            int what = number(0, 7);
            String call = run + "slice(" + slice + ", " + what + ")";
            checks.due(call, x.slice(slice, what), y.slice(slice, what));
        } else if (kind < 82) {
            int place = number(0, y.told(2) - 1);
            checks.due(run + "order(" + place + ")", x.order(place), y.order(place));
        } else if (kind < 90) {
            int sample = number(0, y.setting(5) - 1);
            int what = number(0, 2);
            String call = run + "source(" + sample + ", " + what + ")";
            checks.due(call, x.source(sample, what), y.source(sample, what));
        } else {
            askMore(kind);
        }
    }

    private void askMore(int kind) {
        if (kind < 92) {
            int slice = number(0, y.told(2) - 1);
            checks.due(run + "warp(" + slice + ")", x.warp(slice), y.warp(slice));
        } else if (kind < 94) {
            checks.due(run + "shift()", x.shift(), y.shift());
        } else if (kind < 95) {
            checks.due(run + "leastGrid()", x.leastGrid(), y.leastGrid());
        } else if (kind < 97) {
            int reach = checks.pick(0, 3) > 0 ? number(0, 20) : number(0, 200);
            checks.due(run + "nearTarget(" + reach + ")", x.nearTarget(reach), y.nearTarget(reach));
        } else if (kind < 98) {
            int threshold = number(1, 999);
            String call = run + "marksWith(" + threshold + ")";
            checks.due(call, x.marksWith(threshold), y.marksWith(threshold));
        } else {
            int marks = number(1, 16);
            String call = run + "thresholdFor(" + marks + ")";
            checks.due(call, x.thresholdFor(marks), y.thresholdFor(marks));
        }
    }
}
