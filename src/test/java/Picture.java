/** What a loop answers, in one text, to compare it before and after a call. */
final class Picture {
    private Picture() {
    }

    /** Everything that undo() and back() bring back. */
    static String ofState(LoopSlicer x) {
        StringBuilder text = new StringBuilder();
        int frames = x.told(0);
        int marks = x.told(2);
        text.append("frames ").append(frames).append(", energies");
        for (int frame = 0; frame < frames; frame++) {
            text.append(' ').append(x.energy(frame));
        }
        text.append(", settings");
        for (int setting = 0; setting < 9; setting++) {
            text.append(' ').append(x.setting(setting));
        }
        text.append(", marks");
        for (int mark = 0; mark < marks; mark++) {
            text.append(' ').append(x.slice(mark, 0));
        }
        text.append(", order");
        for (int place = 0; place < marks; place++) {
            text.append(' ').append(x.order(place));
        }
        return text.toString();
    }

    /** The state, how many changes can be undone, and what follows from the state. */
    static String ofAll(LoopSlicer x) {
        StringBuilder text = new StringBuilder(ofState(x));
        text.append(", told");
        for (int what = 0; what < 7; what++) {
            text.append(' ').append(x.told(what));
        }
        int marks = x.told(2);
        for (int slice = 0; slice < marks; slice++) {
            text.append(", slice ").append(slice).append(':');
            for (int what = 1; what < 8; what++) {
                text.append(' ').append(x.slice(slice, what));
            }
            text.append(' ').append(x.warp(slice));
        }
        text.append(", last sample");
        for (int what = 0; what < 3; what++) {
            text.append(' ').append(x.source(x.setting(5) - 1, what));
        }
        text.append(", would be ").append(x.shift()).append(' ').append(x.leastGrid());
        return text.toString();
    }
}
