import java.util.ArrayDeque;
import java.util.ArrayList;
import java.util.Collections;
import java.util.Deque;
import java.util.List;

/** The document written down a second time, slowly and in other ways, to compare answers with. */
final class ReferenceSlicer {
    private static final int BAD = -1, STATE = -2, FULL = -3, NONE = -9;
    private static final int[] LEAST = {1, 1, 1, 10, 100, 1, 1, 0, 0};
    private static final int[] MOST = {1000, 999, 16, 100, 1000, 200000, 32, 1, 500};

    /** One state; its lists and arrays are never changed. */
    private record Snapshot(List<Integer> energies, List<Integer> settings, List<Integer> marks,
            List<Integer> order) {
    }

    private record Way(long sum, List<Integer> steps) {
    }

    private List<Integer> energies = new ArrayList<>(Collections.nCopies(16, 0));
    private List<Integer> settings =
            new ArrayList<>(List.of(100, 100, 2, 50, 200, 1600, 16, 0, 50));
    private List<Integer> marks = new ArrayList<>(List.of(0));
    private List<Integer> order = new ArrayList<>(List.of(0));
    private final Deque<Snapshot> history = new ArrayDeque<>();
    private final Snapshot[] images = new Snapshot[2];

    private Snapshot snapshot() {
        return new Snapshot(List.copyOf(energies), List.copyOf(settings), List.copyOf(marks),
                List.copyOf(order));
    }

    private void restore(Snapshot s) {
        energies = new ArrayList<>(s.energies());
        settings = new ArrayList<>(s.settings());
        marks = new ArrayList<>(s.marks());
        order = new ArrayList<>(s.order());
    }

    private void change() {
        history.addLast(snapshot());
        if (history.size() > 8) {
            history.removeFirst();
        }
    }

    private void orderAnew() {
        order = new ArrayList<>();
        for (int i = 0; i < marks.size(); i++) {
            order.add(i);
        }
    }

    private static boolean in(int i, int size) {
        return 0 <= i && i < size;
    }

    private int frames() {
        return energies.size();
    }

    int begin(int frames) {
        if (frames < 1 || frames > 64) {
            return BAD;
        }
        change();
        int previous = frames();
        energies = new ArrayList<>(Collections.nCopies(frames, 0));
        marks = new ArrayList<>(List.of(0));
        orderAnew();
        return previous;
    }

    int sound(int from, int to, int energy) {
        if (!in(from, frames()) || !in(to, frames()) || to < from || !in(energy, 1000)) {
            return BAD;
        }
        change();
        int sum = 0;
        for (int frame = from; frame <= to; frame++) {
            sum += energies.set(frame, energy);
        }
        return sum;
    }

    int set(int setting, int value) {
        if (!in(setting, 9) || value < LEAST[setting] || value > MOST[setting]) {
            return BAD;
        }
        change();
        return settings.set(setting, value);
    }

    private List<Integer> found(int threshold) {
        List<Integer> found = new ArrayList<>(List.of(0));
        for (int k = 1; k < frames(); k++) {
            boolean rises = energies.get(k) > energies.get(k - 1)
                    && energies.get(k) - energies.get(k - 1) >= threshold;
            boolean apart = k - found.get(found.size() - 1) >= settings.get(2);
            if (rises && apart && found.size() != 16) {
                found.add(k);
            }
        }
        return found;
    }

    int find() {
        change();
        marks = found(settings.get(1));
        orderAnew();
        return marks.size();
    }

    int mark(int frame) {
        if (!in(frame, frames())) {
            return BAD;
        }
        if (marks.contains(frame)) {
            return STATE;
        }
        if (marks.size() == 16) {
            return FULL;
        }
        change();
        marks.add(frame);
        Collections.sort(marks);
        orderAnew();
        return marks.indexOf(frame);
    }

    int unmark(int mark) {
        if (!in(mark, marks.size()) || mark == 0) {
            return BAD;
        }
        change();
        marks.remove(mark);
        orderAnew();
        return marks.size();
    }

    int moveMark(int mark, int frame) {
        if (!in(mark, marks.size()) || mark == 0 || !in(frame, frames())) {
            return BAD;
        }
        if (marks.get(mark - 1) >= frame || frame >= end(mark)) {
            return STATE;
        }
        change();
        return marks.set(mark, frame);
    }

    int swap(int one, int other) {
        if (!in(one, order.size()) || !in(other, order.size())) {
            return BAD;
        }
        change();
        Collections.swap(order, one, other);
        return order.get(one);
    }

    int reverse() {
        change();
        Collections.reverse(order);
        return order.get(0);
    }

    int undo() {
        if (history.isEmpty()) {
            return STATE;
        }
        restore(history.removeLast());
        return history.size();
    }

    private int end(int slice) {
        return slice == marks.size() - 1 ? frames() : marks.get(slice + 1);
    }

    private int length(int slice) {
        return (end(slice) - marks.get(slice)) * settings.get(0);
    }

    private boolean fits(int slice, int budget) {
        int n = length(slice);
        return budget >= n * settings.get(3) / 100 && budget <= n * settings.get(4) / 100;
    }

    /** The best way for the marks from this one on, if it is drawn to this step; null for none. */
    private Way wayFrom(int mark, int step, int target, int grid, Way[][] known, boolean[][] done) {
        if (done[mark][step]) {
            return known[mark][step];
        }
        int at = step * target / grid;
        Way best = null;
        boolean last = mark == marks.size() - 1;
        for (int next = last ? grid : step + 1; next <= (last ? grid : grid - 1); next++) {
            if (next <= step || !fits(mark, next * target / grid - at)) {
                continue;
            }
            Way rest = last ? new Way(0, List.of())
                    : wayFrom(mark + 1, next, target, grid, known, done);
            if (rest != null && (best == null || rest.sum() < best.sum())) {
                best = rest;
            }
        }
        if (best != null) {
            List<Integer> steps = new ArrayList<>(List.of(step));
            steps.addAll(best.steps());
            long own = Math.abs((long) at * frames() - (long) marks.get(mark) * target);
            best = new Way(best.sum() + own, steps);
        }
        done[mark][step] = true;
        known[mark][step] = best;
        return best;
    }

    private Way way(int target, int grid) {
        Way[][] known = new Way[marks.size()][grid + 1];
        return wayFrom(0, 0, target, grid, known, new boolean[marks.size()][grid + 1]);
    }

    private Way way() {
        return way(settings.get(5), settings.get(6));
    }

    /** The budgets, or null if the slices cannot be laid. */
    private List<Integer> budgets() {
        int target = settings.get(5);
        List<Integer> budgets = new ArrayList<>();
        if (settings.get(7) == 1) {
            Way way = way();
            for (int slice = 0; way != null && slice < marks.size(); slice++) {
                int grid = settings.get(6);
                int next = slice + 1 < marks.size() ? way.steps().get(slice + 1) : grid;
                budgets.add(next * target / grid - way.steps().get(slice) * target / grid);
            }
            return way == null ? null : budgets;
        }
        long whole = (long) frames() * settings.get(0);
        List<Integer> byRemainder = new ArrayList<>();
        int left = target;
        for (int slice = 0; slice < marks.size(); slice++) {
            budgets.add((int) ((long) length(slice) * target / whole));
            left -= budgets.get(slice);
            byRemainder.add(slice);
        }
        // The sort keeps equal ones as they stand.
        byRemainder.sort((a, b) -> Long.compare((long) length(b) * target % whole,
                (long) length(a) * target % whole));
        for (int slice : byRemainder.subList(0, left)) {
            budgets.set(slice, budgets.get(slice) + 1);
        }
        return budgets;
    }

    private int fade(int place, List<Integer> budgets) {
        int one = budgets.get(order.get(place));
        int other = budgets.get(order.get((place + 1) % order.size()));
        return Collections.min(List.of(settings.get(8), one / 4, other / 4));
    }

    int told(int what) {
        if (!in(what, 7)) {
            return BAD;
        }
        List<Integer> budgets = budgets();
        int sum = 0;
        for (int i = 0; budgets != null && i < marks.size(); i++) {
            sum += what == 5 ? fade(i, budgets) : fits(i, budgets.get(i)) ? 0 : 1;
        }
        int laid = budgets == null ? NONE : sum;
        int[] answers = {frames(), frames() * settings.get(0), marks.size(),
            budgets == null ? 0 : 1, laid, laid, history.size()};
        return answers[what];
    }

    int setting(int setting) {
        return in(setting, 9) ? settings.get(setting) : BAD;
    }

    int energy(int frame) {
        return in(frame, frames()) ? energies.get(frame) : BAD;
    }

    int slice(int slice, int what) {
        if (!in(slice, marks.size()) || !in(what, 8)) {
            return BAD;
        }
        List<Integer> budgets = budgets();
        boolean laid = budgets != null;
        int place = order.indexOf(slice);
        if (what == 0) {
            return marks.get(slice);
        } else if (what == 1) {
            return length(slice);
        } else if (what == 2) {
            return laid ? budgets.get(slice) : NONE;
        } else if (what == 3) {
            return laid && settings.get(7) == 1 ? way().steps().get(slice) : NONE;
        } else if (what == 4) {
            return laid ? order.subList(0, place).stream().mapToInt(budgets::get).sum() : NONE;
        } else if (what == 5) {
            return place;
        } else if (what == 6) {
            return laid ? fade(place, budgets) : NONE;
        }
        List<Integer> own = energies.subList(marks.get(slice), end(slice));
        return marks.get(slice) + own.indexOf(Collections.max(own));
    }

    int order(int place) {
        return in(place, order.size()) ? order.get(place) : BAD;
    }

    int source(int sample, int what) {
        if (!in(sample, settings.get(5)) || !in(what, 3)) {
            return BAD;
        }
        List<Integer> budgets = budgets();
        if (budgets == null) {
            return NONE;
        }
        int end = settings.get(5);
        for (int place = order.size() - 1; place >= 0; place--) {
            int slice = order.get(place);
            int b = budgets.get(slice);
            int begin = end - b;
            if (sample >= begin) {
                long from = (long) marks.get(slice) * settings.get(0)
                        + (long) (sample - begin) * length(slice) / b;
                int fading = end - sample <= fade(place, budgets) ? 1 : 0;
                return what == 0 ? slice : what == 1 ? (int) from : fading;
            }
            end = begin;
        }
        throw new IllegalStateException("the budgets do not make the target");
    }

    float warp(int slice) {
        if (!in(slice, marks.size())) {
            return BAD;
        }
        List<Integer> budgets = budgets();
        return budgets == null ? NONE : (float) budgets.get(slice) / (float) length(slice);
    }

    int shift() {
        Way way = way();
        return way == null ? NONE : (int) (way.sum() / frames());
    }

    int leastGrid() {
        int least = NONE;
        for (int grid = 32; grid >= 1; grid--) {
            least = way(settings.get(5), grid) != null ? grid : least;
        }
        return least;
    }

    int nearTarget(int reach) {
        if (!in(reach, 201)) {
            return BAD;
        }
        int target = settings.get(5);
        int best = NONE;
        for (int t = Math.max(1, target - reach); t <= Math.min(200000, target + reach); t++) {
            boolean nearer = best == NONE || Math.abs(t - target) < Math.abs(best - target);
            best = nearer && way(t, settings.get(6)) != null ? t : best;
        }
        return best;
    }

    int marksWith(int threshold) {
        return threshold < 1 || threshold > 999 ? BAD : found(threshold).size();
    }

    int thresholdFor(int marks) {
        if (marks < 1 || marks > 16) {
            return BAD;
        }
        int greatest = NONE;
        for (int threshold = 1; threshold <= 999; threshold++) {
            greatest = found(threshold).size() >= marks ? threshold : greatest;
        }
        return greatest;
    }

    int keep(int i) {
        if (!in(i, 2)) {
            return BAD;
        }
        images[i] = snapshot();
        return marks.size();
    }

    int back(int i) {
        if (!in(i, 2)) {
            return BAD;
        }
        if (images[i] == null) {
            return STATE;
        }
        change();
        restore(images[i]);
        return marks.size();
    }
}
