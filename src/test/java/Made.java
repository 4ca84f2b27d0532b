/** Loops for the tests to begin with. */
final class Made {
    private Made() {
    }

    /** A loop of a frame for each energy, the marks of which are not found yet. */
    static LoopSlicer withEnergies(int... energies) {
        LoopSlicer x = new LoopSlicer();
        x.begin(energies.length);
        for (int frame = 0; frame < energies.length; frame++) {
            x.sound(frame, frame, energies[frame]);
        }
        return x;
    }

    /** A silent loop with marks by hand behind the frame 0. */
    static LoopSlicer withMarks(int frames, int... marks) {
        LoopSlicer x = new LoopSlicer();
        x.begin(frames);
        for (int frame : marks) {
            x.mark(frame);
        }
        return x;
    }

    /** A loop in which the frames 0 to 15 are the 16 marks. */
    static LoopSlicer withSixteen(int frames) {
        return withMarks(frames, 1, 2, 3, 4, 5, 6, 7, 8, 9, 10, 11, 12, 13, 14, 15);
    }

    /** A loop of one sample a frame on a grid, with the widest limits of the warp. */
    static LoopSlicer onGrid(int frames, int target, int grid, int... marks) {
        LoopSlicer x = withMarks(frames, marks);
        x.set(0, 1);
        x.set(3, 10);
        x.set(4, 1000);
        x.set(5, target);
        x.set(6, grid);
        x.set(7, 1);
        return x;
    }

    /** The same with frames of many samples and with limits. */
    static LoopSlicer onGridWithin(int samples, int least, int greatest, int target, int grid,
            int frames, int... marks) {
        LoopSlicer x = onGrid(frames, target, grid, marks);
        x.set(0, samples);
        x.set(3, least);
        x.set(4, greatest);
        return x;
    }
}
