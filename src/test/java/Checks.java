import java.util.function.IntUnaryOperator;

/** Counts the answers that are as due, and prints those that are not. */
final class Checks {
    private int right;
    private int wrong;
    private long state;

    void due(String call, double got, double want) {
        if (got == want) {
            right++;
            return;
        }
        wrong++;
        System.out.println(call + " answered " + got + ", due is " + want);
    }

    void dueText(String what, String got, String want) {
        if (got.equals(want)) {
            right++;
            return;
        }
        wrong++;
        System.out.println(what + " are " + got + ", due are " + want);
    }

    /** Asks for 0, 1, 2 and so on, and compares each answer. */
    void dueRow(String call, IntUnaryOperator ask, int... due) {
        for (int i = 0; i < due.length; i++) {
            due(call + " of " + i, ask.applyAsInt(i), due[i]);
        }
    }

    /** Numbers for made-up runs, the same ones each time for a seed. */
    void seed(long seed) {
        state = seed * 2862933555777941757L + 3037000493L;
    }

    int pick(int from, int to) {
        state = state * 6364136223846793005L + 1442695040888963407L;
        return from + (int) ((state >>> 33) % (to - from + 1));
    }

    boolean failed() {
        return wrong > 0;
    }

    void end() {
        System.out.println(right + " answers as due, " + wrong + " not");
        if (wrong > 0 || right == 0) {
            System.exit(1);
        }
    }
}
