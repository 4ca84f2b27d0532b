/**
 * A slicer for loops of sound: marks where the energy rises, slices between them that are
 * stretched within limits to a new length, a grid to which marks are drawn, fades between slices,
 * and exact budgets of samples.
 *
 * <p>All rows are made by the constructor and used again, so that no call makes an object.
 */
public final class LoopSlicer {
    public static final int BAD = -1, STATE = -2, FULL = -3, NONE = -9;

    private static final int MOST_FRAMES = 64;
    private static final int FIRST_FRAMES = 16;
    private static final int MOST_MARKS = 16;
    private static final int MOST_ENERGY = 999;
    private static final int MOST_STEPS = 32;
    private static final int MOST_THRESHOLD = 999;
    private static final int MOST_TARGET = 200000;
    private static final int MOST_REACH = 200;
    private static final int MOST_UNDONE = 8;
    private static final int IMAGES = 2;

    private static final int SAMPLES = 0, THRESHOLD = 1, DISTANCE = 2, LEAST_WARP = 3;
    private static final int GREATEST_WARP = 4, TARGET = 5, GRID = 6, MODE = 7, LONGEST_FADE = 8;
    private static final int SETTINGS = 9;
    private static final int[] LEAST_VALUES = {1, 1, 1, 10, 100, 1, 1, 0, 0};
    private static final int[] MOST_VALUES = {1000, 999, 16, 100, 1000, 200000, 32, 1, 500};
    private static final int[] FIRST_VALUES = {100, 100, 2, 50, 200, 1600, 16, 0, 50};
    private static final int FREE_MODE = 0;

    private final Loop loop = new Loop();
    private final Grid grid = new Grid(loop);
    private final Result result = new Result(loop, grid);
    private final History history = new History();
    private final Loop[] images = new Loop[IMAGES];
    private final boolean[] kept = new boolean[IMAGES];
    private final int[] wouldBeMarks = new int[MOST_MARKS];

    /** Creates a loop of 16 frames without energy, with one mark. */
    public LoopSlicer() {
        for (int i = 0; i < IMAGES; i++) {
            images[i] = new Loop();
        }
    }

    // ---- the loop

    /** Begins a new loop of frames without energy; returns the previous number of frames. */
    public int begin(int frames) {
        if (frames < 1 || frames > MOST_FRAMES) {
            return BAD;
        }
        history.push(loop);
        int previous = loop.frames;
        loop.clear(frames);
        return previous;
    }

    /** Sets the energy of the frames from..to; returns the sum of their previous energies. */
    public int sound(int from, int to, int energy) {
        if (!loop.isFrame(from) || !loop.isFrame(to) || to < from) {
            return BAD;
        }
        if (energy < 0 || energy > MOST_ENERGY) {
            return BAD;
        }
        history.push(loop);
        int previous = 0;
        for (int frame = from; frame <= to; frame++) {
            previous += loop.energies[frame];
            loop.energies[frame] = energy;
        }
        return previous;
    }

    /** Changes a setting; returns its previous value. */
    public int set(int setting, int value) {
        if (!isSetting(setting)) {
            return BAD;
        }
        if (value < LEAST_VALUES[setting] || value > MOST_VALUES[setting]) {
            return BAD;
        }
        history.push(loop);
        int previous = loop.settings[setting];
        loop.settings[setting] = value;
        return previous;
    }

    // ---- marks and order

    /** Finds the marks anew; returns their number. */
    public int find() {
        history.push(loop);
        loop.markCount = loop.findRises(loop.settings[THRESHOLD], loop.marks);
        loop.resetSequence();
        return loop.markCount;
    }

    /** Adds a mark by hand; returns its number. */
    public int mark(int frame) {
        if (!loop.isFrame(frame)) {
            return BAD;
        }
        int number = loop.marksBefore(frame);
        if (loop.isSlice(number) && loop.marks[number] == frame) {
            return STATE;
        }
        if (loop.markCount >= MOST_MARKS) {
            return FULL;
        }
        history.push(loop);
        loop.insertMark(number, frame);
        return number;
    }

    /** Removes a mark; returns the number of marks then. */
    public int unmark(int mark) {
        if (!isMovable(mark)) {
            return BAD;
        }
        history.push(loop);
        loop.removeMark(mark);
        return loop.markCount;
    }

    /** Moves a mark between its neighbours; returns the frame that it was. */
    public int moveMark(int mark, int frame) {
        if (!isMovable(mark) || !loop.isFrame(frame)) {
            return BAD;
        }
        if (frame <= loop.marks[mark - 1] || frame >= loop.endFrame(mark)) {
            return STATE;
        }
        history.push(loop);
        int previous = loop.marks[mark];
        loop.marks[mark] = frame;
        return previous;
    }

    /** Swaps two slices in the order; returns the one that stands at the place one then. */
    public int swap(int one, int other) {
        if (!loop.isSlice(one) || !loop.isSlice(other)) {
            return BAD;
        }
        history.push(loop);
        loop.exchange(one, other);
        return loop.sequence[one];
    }

    /** Turns the order round; returns the slice that comes first then. */
    public int reverse() {
        history.push(loop);
        for (int place = 0; place < loop.markCount / 2; place++) {
            loop.exchange(place, loop.markCount - 1 - place);
        }
        return loop.sequence[0];
    }

    /** Undoes a change; returns how many can still be undone. */
    public int undo() {
        if (history.size == 0) {
            return STATE;
        }
        history.pop(loop);
        return history.size;
    }

    // ---- what is told

    /** Returns a number of the loop, of its result, or of the history. */
    public int told(int what) {
        switch (what) {
            case 0:
                return loop.frames;
            case 1:
                return loop.frames * loop.settings[SAMPLES];
            case 2:
                return loop.markCount;
            case 3:
                return result.lay() ? 1 : 0;
            case 4:
                return result.lay() ? result.countBeyondLimits() : NONE;
            case 5:
                return result.lay() ? result.sumFades() : NONE;
            case 6:
                return history.size;
            default:
                return BAD;
        }
    }

    /** Returns the value of a setting. */
    public int setting(int setting) {
        return isSetting(setting) ? loop.settings[setting] : BAD;
    }

    /** Returns the energy of a frame. */
    public int energy(int frame) {
        return loop.isFrame(frame) ? loop.energies[frame] : BAD;
    }

    /** Returns a number of a slice. */
    public int slice(int slice, int what) {
        if (!loop.isSlice(slice)) {
            return BAD;
        }
        switch (what) {
            case 0:
                return loop.marks[slice];
            case 1:
                return loop.lengthOf(slice);
            case 2:
                return result.lay() ? result.budgets[slice] : NONE;
            case 3:
                return !loop.isFree() && result.lay() ? grid.steps[slice] : NONE;
            case 4:
                return result.lay() ? result.beginOf(slice) : NONE;
            case 5:
                return loop.placeOf(slice);
            case 6:
                return result.lay() ? result.fadeAt(loop.placeOf(slice)) : NONE;
            case 7:
                return loop.loudestFrame(slice);
            default:
                return BAD;
        }
    }

    /** Returns the slice at a place in the order. */
    public int order(int place) {
        return loop.isSlice(place) ? loop.sequence[place] : BAD;
    }

    /** Tells where a sample of the result comes from. */
    public int source(int sample, int what) {
        if (sample < 0 || sample >= loop.settings[TARGET] || what < 0 || what > 2) {
            return BAD;
        }
        if (!result.lay()) {
            return NONE;
        }
        int inSlice = sample;
        for (int place = 0; place < loop.markCount; place++) {
            int budget = result.budgets[loop.sequence[place]];
            if (inSlice < budget) {
                return result.originOf(place, inSlice, what);
            }
            inSlice -= budget;
        }
        // The budgets add up to the target, so this line is never reached.
        return NONE;
    }

    /** Returns how much a slice is warped. */
    public float warp(int slice) {
        if (!loop.isSlice(slice)) {
            return (float) BAD;
        }
        if (!result.lay()) {
            return (float) NONE;
        }
        return (float) result.budgets[slice] / (float) loop.lengthOf(slice);
    }

    /** Returns the least sum of the shifts on the grid, divided by the number of frames. */
    public int shift() {
        int sum = grid.leastSum(loop.settings[TARGET], loop.settings[GRID]);
        return sum == Grid.NO_WAY ? NONE : sum / loop.frames;
    }

    // ---- what would be

    /** Returns the least grid on which the slices can be laid. */
    public int leastGrid() {
        for (int steps = 1; steps <= MOST_STEPS; steps++) {
            if (grid.canLay(loop.settings[TARGET], steps)) {
                return steps;
            }
        }
        return NONE;
    }

    /** Returns the nearest target with which the slices can be laid on the grid. */
    public int nearTarget(int reach) {
        if (reach < 0 || reach > MOST_REACH) {
            return BAD;
        }
        for (int away = 0; away <= reach; away++) {
            int lesser = loop.settings[TARGET] - away;
            if (lesser >= 1 && grid.canLay(lesser, loop.settings[GRID])) {
                return lesser;
            }
            int greater = loop.settings[TARGET] + away;
            if (greater <= MOST_TARGET && grid.canLay(greater, loop.settings[GRID])) {
                return greater;
            }
        }
        return NONE;
    }

    /** Tells how many marks would be found with another threshold. */
    public int marksWith(int threshold) {
        if (threshold < 1 || threshold > MOST_THRESHOLD) {
            return BAD;
        }
        return loop.findRises(threshold, wouldBeMarks);
    }

    /** Finds the greatest threshold with which at least that many marks would be found. */
    public int thresholdFor(int marks) {
        if (marks < 1 || marks > MOST_MARKS) {
            return BAD;
        }
        if (loop.findRises(MOST_THRESHOLD, wouldBeMarks) >= marks) {
            return MOST_THRESHOLD;
        }
        // Which frames rise enough changes only at a threshold that is itself the rise of a frame,
        // so no other threshold than these can be the greatest one.
        int best = 0;
        for (int frame = 1; frame < loop.frames; frame++) {
            int rise = loop.energies[frame] - loop.energies[frame - 1];
            if (rise > best && loop.findRises(rise, wouldBeMarks) >= marks) {
                best = rise;
            }
        }
        return best > 0 ? best : NONE;
    }

    // ---- images

    /** Keeps everything but the images and the history in an image; returns the marks' number. */
    public int keep(int i) {
        if (!isImage(i)) {
            return BAD;
        }
        images[i].copy(loop);
        kept[i] = true;
        return loop.markCount;
    }

    /** Makes what an image keeps the present state; returns the number of marks then. */
    public int back(int i) {
        if (!isImage(i)) {
            return BAD;
        }
        if (!kept[i]) {
            return STATE;
        }
        history.push(loop);
        loop.copy(images[i]);
        return loop.markCount;
    }

    // ---- small questions

    private static boolean isSetting(int setting) {
        return setting >= 0 && setting < SETTINGS;
    }

    private static boolean isImage(int i) {
        return i >= 0 && i < IMAGES;
    }

    private boolean isMovable(int mark) {
        return mark > 0 && loop.isSlice(mark);
    }

    /** Everything that undo() and back() bring back. */
    private static final class Loop {
        int frames = FIRST_FRAMES;
        int markCount = 1;
        final int[] energies = new int[MOST_FRAMES];
        final int[] settings = FIRST_VALUES.clone();
        final int[] marks = new int[MOST_MARKS];
        /** The slices in their order, by place. */
        final int[] sequence = new int[MOST_MARKS];

        void copy(Loop other) {
            frames = other.frames;
            markCount = other.markCount;
            System.arraycopy(other.energies, 0, energies, 0, MOST_FRAMES);
            System.arraycopy(other.settings, 0, settings, 0, SETTINGS);
            System.arraycopy(other.marks, 0, marks, 0, MOST_MARKS);
            System.arraycopy(other.sequence, 0, sequence, 0, MOST_MARKS);
        }

        void clear(int newFrames) {
            frames = newFrames;
            for (int frame = 0; frame < MOST_FRAMES; frame++) {
                energies[frame] = 0;
            }
            markCount = 1;
            resetSequence();
        }

        /** Puts the slices into the order 0, 1, 2 and so on. */
        void resetSequence() {
            for (int place = 0; place < MOST_MARKS; place++) {
                sequence[place] = place;
            }
        }

        boolean isFrame(int frame) {
            return frame >= 0 && frame < frames;
        }

        /** Marks, slices and places are as many: this tells of each of them whether it exists. */
        boolean isSlice(int slice) {
            return slice >= 0 && slice < markCount;
        }

        boolean isFree() {
            return settings[MODE] == FREE_MODE;
        }

        /** The frame behind the last one of a slice. */
        int endFrame(int slice) {
            return slice + 1 < markCount ? marks[slice + 1] : frames;
        }

        int lengthOf(int slice) {
            return (endFrame(slice) - marks[slice]) * settings[SAMPLES];
        }

        int leastBudget(int length) {
            return length * settings[LEAST_WARP] / 100;
        }

        int mostBudget(int length) {
            return length * settings[GREATEST_WARP] / 100;
        }

        int loudestFrame(int slice) {
            int loudest = marks[slice];
            int end = endFrame(slice);
            for (int frame = loudest + 1; frame < end; frame++) {
                if (energies[frame] > energies[loudest]) {
                    loudest = frame;
                }
            }
            return loudest;
        }

        int placeOf(int slice) {
            int place = 0;
            while (place < markCount - 1 && sequence[place] != slice) {
                place++;
            }
            return place;
        }

        void exchange(int one, int other) {
            int first = sequence[one];
            sequence[one] = sequence[other];
            sequence[other] = first;
        }

        int marksBefore(int frame) {
            int number = 0;
            while (number < markCount && marks[number] < frame) {
                number++;
            }
            return number;
        }

        void insertMark(int number, int frame) {
            for (int mark = markCount; mark > number; mark--) {
                marks[mark] = marks[mark - 1];
            }
            marks[number] = frame;
            markCount++;
            resetSequence();
        }

        void removeMark(int number) {
            for (int mark = number; mark < markCount - 1; mark++) {
                marks[mark] = marks[mark + 1];
            }
            markCount--;
            resetSequence();
        }

        /** Writes into a row the marks that a threshold finds, and returns their number. */
        int findRises(int threshold, int[] found) {
            found[0] = 0;
            int count = 1;
            for (int frame = 1; frame < frames && count < MOST_MARKS; frame++) {
                int rise = energies[frame] - energies[frame - 1];
                if (rise >= threshold && frame - found[count - 1] >= settings[DISTANCE]) {
                    found[count] = frame;
                    count++;
                }
            }
            return count;
        }
    }

    /** The latest states before changes, in a ring of which the oldest one is written over. */
    private static final class History {
        private final Loop[] states = new Loop[MOST_UNDONE];
        private int newest;
        int size;

        History() {
            for (int i = 0; i < MOST_UNDONE; i++) {
                states[i] = new Loop();
            }
        }

        void push(Loop loop) {
            newest = newest + 1 < MOST_UNDONE ? newest + 1 : 0;
            states[newest].copy(loop);
            size = size < MOST_UNDONE ? size + 1 : size;
        }

        /** Needs a state that was pushed. */
        void pop(Loop loop) {
            loop.copy(states[newest]);
            newest = newest > 0 ? newest - 1 : MOST_UNDONE - 1;
            size--;
        }
    }

    /** Draws the marks to the steps of a grid with the least sum of shifts. */
    private static final class Grid {
        /** No sum of shifts is negative. */
        static final int NO_WAY = -1;
        private static final int WIDTH = MOST_STEPS + 1;

        private final Loop loop;
        private int target;
        /** The step of the loop's end. */
        private int lastStep;
        /** The sample at which each step lies. */
        private final int[] positions = new int[WIDTH];
        private final int[] least = new int[MOST_MARKS];
        private final int[] most = new int[MOST_MARKS];
        /** By mark and step: the least sum from this mark on, if it is drawn to this step. */
        private final int[] sums = new int[(MOST_MARKS + 1) * WIDTH];
        /** The step of each mark, and of the end behind them. */
        final int[] steps = new int[MOST_MARKS + 1];

        Grid(Loop loop) {
            this.loop = loop;
        }

        boolean canLay(int newTarget, int newGrid) {
            return leastSum(newTarget, newGrid) != NO_WAY;
        }

        /** Returns the least sum of shifts, or NO_WAY. */
        int leastSum(int newTarget, int newGrid) {
            if (newGrid < loop.markCount || newGrid > MOST_STEPS) {
                return NO_WAY;
            }
            target = newTarget;
            lastStep = newGrid;
            measure();
            sums[loop.markCount * WIDTH + lastStep] = 0;
            // From the end on, so that the steps can be chosen from the first mark on.
            for (int mark = loop.markCount - 1; mark >= 0; mark--) {
                if (!fillSums(mark)) {
                    return NO_WAY;
                }
            }
            return sums[0];
        }

        /** Chooses the steps for the present settings; tells whether there is a way. */
        boolean draw() {
            if (leastSum(loop.settings[TARGET], loop.settings[GRID]) == NO_WAY) {
                return false;
            }
            steps[0] = 0;
            for (int mark = 0; mark < loop.markCount; mark++) {
                int next = bestNext(mark, steps[mark]);
                if (next == NO_WAY) {
                    return false;
                }
                steps[mark + 1] = next;
            }
            return true;
        }

        int budgetOf(int slice) {
            return positions[steps[slice + 1]] - positions[steps[slice]];
        }

        private void measure() {
            for (int step = 0; step <= lastStep; step++) {
                positions[step] = step * target / lastStep;
            }
            for (int slice = 0; slice < loop.markCount; slice++) {
                int length = loop.lengthOf(slice);
                least[slice] = loop.leastBudget(length);
                most[slice] = loop.mostBudget(length);
            }
        }

        /** Fills the sums of a mark from those of the next one; tells whether there is a way. */
        private boolean fillSums(int mark) {
            boolean possible = false;
            int last = lastStepOf(mark);
            for (int step = firstStepOf(mark); step <= last; step++) {
                int next = bestNext(mark, step);
                int sum = NO_WAY;
                if (next != NO_WAY) {
                    sum = sums[(mark + 1) * WIDTH + next] + distance(mark, step);
                    possible = true;
                }
                sums[mark * WIDTH + step] = sum;
            }
            return possible;
        }

        /** Returns the step for the next mark with the least sum, the least of several. */
        private int bestNext(int mark, int step) {
            int row = (mark + 1) * WIDTH;
            int best = NO_WAY;
            int last = lastStepOf(mark + 1);
            for (int next = Math.max(step + 1, firstStepOf(mark + 1)); next <= last; next++) {
                int budget = positions[next] - positions[step];
                if (budget > most[mark]) {
                    return best;
                }
                boolean possible = budget >= least[mark] && sums[row + next] != NO_WAY;
                if (possible && (best == NO_WAY || sums[row + next] < sums[row + best])) {
                    best = next;
                }
            }
            return best;
        }

        private int firstStepOf(int mark) {
            return mark < loop.markCount ? mark : lastStep;
        }

        /** Leaves a step for each mark behind this one, and for the end. */
        private int lastStepOf(int mark) {
            return mark == 0 ? 0 : lastStep - (loop.markCount - mark);
        }

        private int distance(int mark, int step) {
            return Math.abs(positions[step] * loop.frames - loop.marks[mark] * target);
        }
    }

    /** The slices as they lie in the result. What it tells holds after lay() has told true. */
    private static final class Result {
        private final Loop loop;
        private final Grid grid;
        final int[] budgets = new int[MOST_MARKS];
        private final long[] remainders = new long[MOST_MARKS];

        Result(Loop loop, Grid grid) {
            this.loop = loop;
            this.grid = grid;
        }

        /** Shares the target among the slices by the mode; tells whether they can be laid. */
        boolean lay() {
            if (loop.isFree()) {
                shareFreely();
                return true;
            }
            if (!grid.draw()) {
                return false;
            }
            for (int slice = 0; slice < loop.markCount; slice++) {
                budgets[slice] = grid.budgetOf(slice);
            }
            return true;
        }

        private void shareFreely() {
            long target = loop.settings[TARGET];
            long whole = (long) loop.frames * loop.settings[SAMPLES];
            int left = loop.settings[TARGET];
            for (int slice = 0; slice < loop.markCount; slice++) {
                long product = loop.lengthOf(slice) * target;
                budgets[slice] = (int) (product / whole);
                remainders[slice] = product % whole;
                left -= budgets[slice];
            }
            for (; left > 0; left--) {
                giveOne();
            }
        }

        private void giveOne() {
            int taker = 0;
            for (int slice = 1; slice < loop.markCount; slice++) {
                if (remainders[slice] > remainders[taker]) {
                    taker = slice;
                }
            }
            budgets[taker]++;
            // None gets two.
            remainders[taker] = -1;
        }

        int countBeyondLimits() {
            int count = 0;
            for (int slice = 0; slice < loop.markCount; slice++) {
                int length = loop.lengthOf(slice);
                boolean tooFew = budgets[slice] < loop.leastBudget(length);
                if (tooFew || budgets[slice] > loop.mostBudget(length)) {
                    count++;
                }
            }
            return count;
        }

        int sumFades() {
            int sum = 0;
            for (int place = 0; place < loop.markCount; place++) {
                sum += fadeAt(place);
            }
            return sum;
        }

        /** The fade between the slice at a place and the next one in the order. */
        int fadeAt(int place) {
            int nextPlace = place + 1 < loop.markCount ? place + 1 : 0;
            int own = budgets[loop.sequence[place]] / 4;
            int next = budgets[loop.sequence[nextPlace]] / 4;
            return Math.min(loop.settings[LONGEST_FADE], Math.min(own, next));
        }

        int beginOf(int slice) {
            int begin = 0;
            int end = loop.placeOf(slice);
            for (int place = 0; place < end; place++) {
                begin += budgets[loop.sequence[place]];
            }
            return begin;
        }

        /** Tells of a sample of the slice at a place; the sample is less than its budget. */
        int originOf(int place, int sample, int what) {
            int slice = loop.sequence[place];
            if (what == 0) {
                return slice;
            }
            if (what == 1) {
                return loop.marks[slice] * loop.settings[SAMPLES] + loopSample(slice, sample);
            }
            return sample >= budgets[slice] - fadeAt(place) ? 1 : 0;
        }

        private int loopSample(int slice, int sample) {
            long product = (long) sample * loop.lengthOf(slice);
            return budgets[slice] > 0 ? (int) (product / budgets[slice]) : 0;
        }
    }
}
