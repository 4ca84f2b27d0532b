import java.lang.reflect.Constructor;
import java.lang.reflect.Field;
import java.lang.reflect.Method;
import java.lang.reflect.Modifier;
import java.util.ArrayList;
import java.util.List;
import java.util.TreeSet;
import java.util.function.Supplier;
import java.util.function.ToIntFunction;

/** Edges of "CONVENTIONS" and of the public face, for the promises 1 to 25 and the constants. */
final class ConventionsTest {
    private static final Checks checks = new Checks();

    public static void main(String[] args) {
        theFaceIsTheDocuments();
        theConstants();
        refusedCallsChangeNothing();
        refusedCallsChangeNothingWithoutHistory();
        refusedCallsChangeNothingWithSixteenMarks();
        badComesBeforeState();
        badComesBeforeFull();
        stateComesBeforeFull();
        noneComesBehindBad();
        theSameCallsGiveTheSameAnswers();
        objectsAreApart();
        changesAsThe512thCall();
        questionsAsThe512thCall();
        checks.end();
    }

    // "The public face"

    private static final String[] FACE = {"int back(int)", "int begin(int)", "int energy(int)",
        "int find()", "int keep(int)", "int leastGrid()", "int mark(int)", "int marksWith(int)",
        "int moveMark(int, int)", "int nearTarget(int)", "int order(int)", "int reverse()",
        "int set(int, int)", "int setting(int)", "int shift()", "int slice(int, int)",
        "int sound(int, int, int)", "int source(int, int)", "int swap(int, int)",
        "int thresholdFor(int)", "int told(int)", "int undo()", "int unmark(int)",
        "float warp(int)"};

    private static void theFaceIsTheDocuments() {
        TreeSet<String> methods = new TreeSet<>();
        for (Method method : LoopSlicer.class.getDeclaredMethods()) {
            if (!Modifier.isPrivate(method.getModifiers())) {
                methods.add(method.getReturnType() + " " + method.getName() + "("
                        + types(method.getParameterTypes()) + ")");
                checks.due(method + " is public", method.getModifiers(), Modifier.PUBLIC);
            }
        }
        TreeSet<String> due = new TreeSet<>(List.of(FACE));
        checks.dueText("the methods", methods.toString(), due.toString());
        TreeSet<String> fields = new TreeSet<>();
        for (Field field : LoopSlicer.class.getDeclaredFields()) {
            if (!Modifier.isPrivate(field.getModifiers())) {
                fields.add(Modifier.toString(field.getModifiers()) + " " + field.getType() + " "
                        + field.getName());
            }
        }
        checks.dueText("the constants", fields.toString(), "[public static final int BAD, "
                + "public static final int FULL, public static final int NONE, "
                + "public static final int STATE]");
        Constructor<?>[] constructors = LoopSlicer.class.getDeclaredConstructors();
        checks.due("constructors", constructors.length, 1);
        checks.due("its parameters", constructors[0].getParameterCount(), 0);
        checks.due("it is public", constructors[0].getModifiers(), Modifier.PUBLIC);
        checks.due("the class", LoopSlicer.class.getModifiers(), Modifier.PUBLIC | Modifier.FINAL);
    }

    private static String types(Class<?>[] types) {
        List<String> names = new ArrayList<>();
        for (Class<?> type : types) {
            names.add(type.getName());
        }
        return String.join(", ", names);
    }

    private static void theConstants() {
        checks.due("BAD", LoopSlicer.BAD, -1);
        checks.due("STATE", LoopSlicer.STATE, -2);
        checks.due("FULL", LoopSlicer.FULL, -3);
        checks.due("NONE", LoopSlicer.NONE, -9);
    }

    // "A call that returns one of them changes nothing."

    private static void dueAlike(String call, ToIntFunction<LoopSlicer> ask, LoopSlicer refused,
            LoopSlicer untouched, int due) {
        checks.due(call, ask.applyAsInt(refused), due);
        checks.dueText("after " + call + " the answers", Picture.ofAll(refused),
                Picture.ofAll(untouched));
    }

    /** Looks at what cannot be seen from outside too: what can be undone, and the images. */
    private static void dueHidden(String call, LoopSlicer refused, LoopSlicer untouched) {
        for (int left = untouched.told(6); left > 0; left--) {
            checks.due("after " + call + " undo()", refused.undo(), untouched.undo());
            checks.dueText("after " + call + " and undo() the state", Picture.ofState(refused),
                    Picture.ofState(untouched));
        }
        checks.due("after " + call + " undo() of none", refused.undo(), -2);
        for (int i = 0; i < 2; i++) {
            checks.due("after " + call + " back(" + i + ")", refused.back(i), untouched.back(i));
            checks.dueText("after " + call + " and back(" + i + ") the state",
                    Picture.ofState(refused), Picture.ofState(untouched));
        }
    }

    private static void dueRefused(Supplier<LoopSlicer> made, String call,
            ToIntFunction<LoopSlicer> ask, int due) {
        LoopSlicer refused = made.get();
        LoopSlicer untouched = made.get();
        dueAlike(call, ask, refused, untouched, due);
        dueHidden(call, refused, untouched);
    }

    /** Four marks and an order, eight changes that can be undone, and one image of two. */
    private static LoopSlicer midway() {
        LoopSlicer x = new LoopSlicer();
        x.begin(8);
        x.sound(2, 2, 500);
        x.sound(5, 5, 300);
        x.mark(2);
        x.mark(4);
        x.keep(0);
        x.mark(6);
        x.swap(0, 3);
        x.set(5, 50);
        return x;
    }

    private static void refusedCallsChangeNothing() {
        Supplier<LoopSlicer> made = ConventionsTest::midway;
        dueRefused(made, "begin(0)", x -> x.begin(0), -1);
        dueRefused(made, "begin(65)", x -> x.begin(65), -1);
        dueRefused(made, "sound(-1, 3, 9)", x -> x.sound(-1, 3, 9), -1);
        dueRefused(made, "sound(3, 8, 9)", x -> x.sound(3, 8, 9), -1);
        dueRefused(made, "sound(3, 2, 9)", x -> x.sound(3, 2, 9), -1);
        dueRefused(made, "sound(0, 7, -1)", x -> x.sound(0, 7, -1), -1);
        dueRefused(made, "sound(0, 7, 1000)", x -> x.sound(0, 7, 1000), -1);
        dueRefused(made, "set(-1, 1)", x -> x.set(-1, 1), -1);
        dueRefused(made, "set(9, 1)", x -> x.set(9, 1), -1);
        dueRefused(made, "set(5, 0)", x -> x.set(5, 0), -1);
        dueRefused(made, "set(5, 200001)", x -> x.set(5, 200001), -1);
        dueRefused(made, "mark(8)", x -> x.mark(8), -1);
        dueRefused(made, "mark(-1)", x -> x.mark(-1), -1);
        dueRefused(made, "mark(0)", x -> x.mark(0), -2);
        dueRefused(made, "mark(6)", x -> x.mark(6), -2);
        dueRefused(made, "unmark(0)", x -> x.unmark(0), -1);
        dueRefused(made, "unmark(4)", x -> x.unmark(4), -1);
        dueRefused(made, "moveMark(0, 1)", x -> x.moveMark(0, 1), -1);
        dueRefused(made, "moveMark(4, 7)", x -> x.moveMark(4, 7), -1);
        dueRefused(made, "moveMark(3, 8)", x -> x.moveMark(3, 8), -1);
        dueRefused(made, "moveMark(2, 2)", x -> x.moveMark(2, 2), -2);
        dueRefused(made, "moveMark(2, 6)", x -> x.moveMark(2, 6), -2);
        dueRefused(made, "swap(4, 0)", x -> x.swap(4, 0), -1);
        dueRefused(made, "swap(0, 4)", x -> x.swap(0, 4), -1);
        dueRefused(made, "keep(2)", x -> x.keep(2), -1);
        dueRefused(made, "back(2)", x -> x.back(2), -1);
        dueRefused(made, "back(1)", x -> x.back(1), -2);
        dueRefused(made, "told(7)", x -> x.told(7), -1);
        dueRefused(made, "setting(9)", x -> x.setting(9), -1);
        dueRefused(made, "energy(8)", x -> x.energy(8), -1);
        dueRefused(made, "slice(4, 0)", x -> x.slice(4, 0), -1);
        dueRefused(made, "order(4)", x -> x.order(4), -1);
        dueRefused(made, "source(50, 0)", x -> x.source(50, 0), -1);
        dueRefused(made, "warp(4)", x -> (int) x.warp(4), -1);
        dueRefused(made, "nearTarget(201)", x -> x.nearTarget(201), -1);
        dueRefused(made, "marksWith(0)", x -> x.marksWith(0), -1);
        dueRefused(made, "thresholdFor(17)", x -> x.thresholdFor(17), -1);
    }

    private static void refusedCallsChangeNothingWithoutHistory() {
        Supplier<LoopSlicer> made = LoopSlicer::new;
        dueRefused(made, "new: undo()", x -> x.undo(), -2);
        dueRefused(made, "new: back(0)", x -> x.back(0), -2);
        dueRefused(made, "new: mark(0)", x -> x.mark(0), -2);
        dueRefused(made, "new: mark(16)", x -> x.mark(16), -1);
        dueRefused(made, "new: begin(0)", x -> x.begin(0), -1);
        dueRefused(made, "new: keep(-1)", x -> x.keep(-1), -1);
    }

    /** As many marks as there can be, and a frame that is none; few enough frames to picture. */
    private static LoopSlicer sixteen() {
        LoopSlicer x = Made.withSixteen(17);
        x.keep(1);
        for (int i = 0; i < 7; i++) {
            x.undo();
        }
        for (int frame = 9; frame < 16; frame++) {
            x.mark(frame);
        }
        x.reverse();
        return x;
    }

    private static void refusedCallsChangeNothingWithSixteenMarks() {
        LoopSlicer refused = sixteen();
        LoopSlicer untouched = sixteen();
        dueAlike("16 marks: mark(16)", x -> x.mark(16), refused, untouched, -3);
        LoopSlicer again = sixteen();
        checks.due("16 marks: mark(16)", again.mark(16), -3);
        checks.due("16 marks, refused: undo()", again.undo(), 7);
        checks.due("16 marks, refused, undone: order(0)", again.order(0), 0);
        checks.due("16 marks, refused: told(2)", again.told(2), 16);
        checks.due("16 marks, refused: back(1)", again.back(1), 16);
        checks.due("16 marks, refused: back(0)", again.back(0), -2);
    }

    // "The error codes are BAD (-1), an argument is out of its range or names something that does
    // not exist; STATE (-2), the call is not possible now, as the method says; FULL (-3), a maximum
    // would be exceeded. If several of them apply to one call, the first one in this list is
    // returned."

    private static void badComesBeforeState() {
        LoopSlicer x = midway();
        // These frames do not lie between the neighbours either.
        checks.due("moveMark(2, 8)", x.moveMark(2, 8), -1);
        checks.due("moveMark(2, -1)", x.moveMark(2, -1), -1);
        checks.due("moveMark(0, 0)", x.moveMark(0, 0), -1);
        checks.due("moveMark(4, 0)", x.moveMark(4, 0), -1);
        // Nothing is kept in an image that does not exist.
        checks.due("back(2)", new LoopSlicer().back(2), -1);
        checks.due("back(-1)", new LoopSlicer().back(-1), -1);
    }

    private static void badComesBeforeFull() {
        LoopSlicer x = Made.withSixteen(17);
        checks.due("16 marks: mark(17)", x.mark(17), -1);
        checks.due("16 marks: mark(-1)", x.mark(-1), -1);
        checks.due("16 marks: mark(16)", x.mark(16), -3);
    }

    private static void stateComesBeforeFull() {
        LoopSlicer x = Made.withSixteen(17);
        checks.due("16 marks: mark(0)", x.mark(0), -2);
        checks.due("16 marks: mark(15)", x.mark(15), -2);
        checks.due("16 marks: mark(16)", x.mark(16), -3);
    }

    // "NONE (-9) means that there is no such value; it is returned only if no error code applies."

    private static void noneComesBehindBad() {
        LoopSlicer x = midway();
        checks.due("free: slice(0, 3)", x.slice(0, 3), -9);
        checks.due("free: slice(4, 3)", x.slice(4, 3), -1);
        x.set(7, 1);
        x.set(6, 3);
        checks.due("no way: slice(3, 2)", x.slice(3, 2), -9);
        checks.due("no way: slice(4, 2)", x.slice(4, 2), -1);
        checks.due("no way: slice(3, 8)", x.slice(3, 8), -1);
        checks.due("no way: source(49, 0)", x.source(49, 0), -9);
        checks.due("no way: source(50, 0)", x.source(50, 0), -1);
        checks.due("no way: source(49, 3)", x.source(49, 3), -1);
        checks.due("no way: warp(3)", x.warp(3), -9);
        checks.due("no way: warp(4)", x.warp(4), -1);
        checks.due("no way: nearTarget(200)", x.nearTarget(200), -9);
        checks.due("no way: nearTarget(201)", x.nearTarget(201), -1);
        checks.due("two rises: thresholdFor(16)", x.thresholdFor(16), -9);
        checks.due("two rises: thresholdFor(17)", x.thresholdFor(17), -1);
        checks.due("no way: told(5)", x.told(5), -9);
        checks.due("no way: told(7)", x.told(7), -1);
    }

    private static void theSameCallsGiveTheSameAnswers() {
        LoopSlicer x = midway();
        String due = Picture.ofAll(x);
        checks.dueText("the same calls: the answers", Picture.ofAll(midway()), due);
        checks.dueText("asked again: the answers", Picture.ofAll(x), due);
    }

    private static void objectsAreApart() {
        LoopSlicer x = midway();
        LoopSlicer y = new LoopSlicer();
        String due = Picture.ofAll(x);
        y.begin(64);
        y.sound(0, 63, 999);
        y.mark(3);
        y.set(5, 7);
        y.set(7, 1);
        y.keep(0);
        y.keep(1);
        y.told(3);
        checks.dueText("another object's calls: the answers", Picture.ofAll(x), due);
        checks.due("another object's image: back(1)", x.back(1), -2);
    }

    // "An object is used for at most 512 calls after it has been made"

    private static void changesAsThe512thCall() {
        LoopSlicer x = new LoopSlicer();
        for (int call = 1; call <= 512; call++) {
            int due = call == 1 ? 1600 : call - 1;
            checks.due("call " + call + ": set(5, " + call + ")", x.set(5, call), due);
        }
        LoopSlicer y = new LoopSlicer();
        for (int call = 1; call < 512; call++) {
            y.set(5, call);
        }
        checks.due("call 512: undo()", y.undo(), 7);
        LoopSlicer z = new LoopSlicer();
        for (int call = 1; call < 256; call++) {
            z.keep(0);
            z.back(0);
        }
        z.keep(1);
        checks.due("call 512: back(1)", z.back(1), 1);
    }

    private static void questionsAsThe512thCall() {
        LoopSlicer x = Made.withSixteen(64);
        x.set(7, 1);
        x.set(6, 32);
        x.set(5, 6400);
        // 16 calls for the marks, and three for the settings, came before.
        for (int call = 20; call < 512; call++) {
            checks.due("call " + call + ": source(6399, 0)", x.source(6399, 0), 15);
        }
        // The marks crowd at the steps 1 to 15, which leaves the last slice 3400 samples for 4900.
        checks.due("call 512: source(6399, 1)", x.source(6399, 1), 1500 + 3399 * 4900 / 3400);
    }
}
