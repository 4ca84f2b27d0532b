import java.io.IOException;
import java.lang.reflect.Method;
import java.lang.reflect.Modifier;
import java.nio.file.Files;
import java.nio.file.Path;
import java.util.ArrayList;
import java.util.Arrays;
import java.util.List;
import java.util.Set;
import java.util.TreeSet;
import java.util.regex.Matcher;
import java.util.regex.Pattern;
import java.util.stream.Collectors;
import java.util.stream.Stream;

/** README.md holds what it says: its example, its methods, its settings and its list of tests. */
final class ReadmeTest {
    private static final Checks checks = new Checks();
    private static final String FIRST_LINE = "LoopSlicer slicer = new LoopSlicer();";
    private static final Pattern CALL =
            Pattern.compile("slicer\\.(\\w+)\\(([-\\d, ]*)\\); +// (-?\\d+(?:\\.\\d+)?): .+");
    private static final Pattern SETTING =
            Pattern.compile("\\| (\\d) \\| .+ \\| (\\d+) to (\\d+) \\| (\\d+) \\|");
    private static final Pattern TEST = Pattern.compile("\\| (\\w+Test) \\|.*");
    private static final Pattern METHOD = Pattern.compile("`(\\w+)`");

    public static void main(String[] args) throws IOException, ReflectiveOperationException {
        // .ci/run begins the tests in the project's folder.
        List<String> lines = Files.readAllLines(Path.of("README.md"));
        theExampleAnswersAsItSays(lines);
        theTableNamesEveryMethod(lines);
        theMethodsStandInTheirColumns(lines);
        theSettingsHaveTheirRanges(lines);
        theTableNamesEveryTest(lines);
        checks.end();
    }

    private static List<String> example(List<String> lines) {
        int begin = lines.indexOf("```java") + 1;
        List<String> rest = lines.subList(begin, lines.size());
        return rest.subList(0, Math.max(0, rest.indexOf("```")));
    }

    private static void theExampleAnswersAsItSays(List<String> lines)
            throws ReflectiveOperationException {
        LoopSlicer slicer = new LoopSlicer();
        List<String> example = example(lines);
        checks.dueText("the first line", example.isEmpty() ? "none" : example.get(0), FIRST_LINE);
        for (String line : example) {
            Matcher call = CALL.matcher(line);
            if (call.matches()) {
                double due = Double.parseDouble(call.group(3));
                checks.due("README.md: " + line, answer(slicer, call), due);
            } else if (!line.isEmpty() && !line.startsWith("// ")) {
                checks.dueText("a line without an answer", line, FIRST_LINE);
            }
        }
    }

    private static double answer(LoopSlicer slicer, Matcher call)
            throws ReflectiveOperationException {
        List<Object> numbers = new ArrayList<>();
        for (String number : call.group(2).split(", ")) {
            if (!number.isEmpty()) {
                numbers.add(Integer.valueOf(number));
            }
        }
        Class<?>[] types = new Class<?>[numbers.size()];
        Arrays.fill(types, int.class);
        Method method = LoopSlicer.class.getMethod(call.group(1), types);
        return ((Number) method.invoke(slicer, numbers.toArray())).doubleValue();
    }

    /** The names in one column of the table of methods, the columns counted from 1. */
    private static Set<String> methods(List<String> lines, int column) {
        Set<String> names = new TreeSet<>();
        int begin = lines.indexOf("| for | changes, which can be undone | others |") + 1;
        for (String line : lines.subList(begin, lines.size())) {
            if (!line.startsWith("| ")) {
                break;
            }
            Matcher name = METHOD.matcher(line.split("\\|")[column + 1]);
            while (name.find()) {
                names.add(name.group(1));
            }
        }
        return names;
    }

    private static void theTableNamesEveryMethod(List<String> lines) {
        Set<String> due = new TreeSet<>();
        for (Method method : LoopSlicer.class.getDeclaredMethods()) {
            if (Modifier.isPublic(method.getModifiers())) {
                due.add(method.getName());
            }
        }
        Set<String> named = methods(lines, 1);
        named.addAll(methods(lines, 2));
        checks.dueText("the methods that README.md names", named.toString(), due.toString());
    }

    private static void theMethodsStandInTheirColumns(List<String> lines)
            throws ReflectiveOperationException {
        for (Method method : LoopSlicer.class.getDeclaredMethods()) {
            if (Modifier.isPublic(method.getModifiers())) {
                boolean named = methods(lines, 1).contains(method.getName());
                checks.due("README.md: " + method.getName() + " is a change", named ? 1 : 0,
                        isChange(method) ? 1 : 0);
            }
        }
    }

    /** Tells whether one of some calls of a method is recorded. */
    private static boolean isChange(Method method) throws ReflectiveOperationException {
        for (int first = 0; first < 3; first++) {
            // Four slices, so that 3 is a frame, a place, an energy and a value alike.
            LoopSlicer slicer = Made.withMarks(8, 2, 4, 6);
            slicer.keep(0);
            Object[] numbers = new Object[method.getParameterCount()];
            for (int i = 0; i < numbers.length; i++) {
                numbers[i] = i == 0 ? first : 3;
            }
            int before = slicer.told(6);
            method.invoke(slicer, numbers);
            if (slicer.told(6) > before) {
                return true;
            }
        }
        return false;
    }

    private static void theSettingsHaveTheirRanges(List<String> lines) {
        int count = 0;
        for (String line : lines) {
            Matcher row = SETTING.matcher(line);
            if (row.matches()) {
                dueSetting(line, Integer.parseInt(row.group(1)), Integer.parseInt(row.group(2)),
                        Integer.parseInt(row.group(3)), Integer.parseInt(row.group(4)));
                count++;
            }
        }
        checks.due("the settings that README.md names", count, 9);
    }

    private static void dueSetting(String line, int setting, int least, int most, int first) {
        LoopSlicer slicer = new LoopSlicer();
        checks.due(line + ": at first", slicer.setting(setting), first);
        checks.due(line + ": below the least", slicer.set(setting, least - 1), -1);
        checks.due(line + ": beyond the greatest", slicer.set(setting, most + 1), -1);
        checks.due(line + ": the least", slicer.set(setting, least), first);
        checks.due(line + ": the greatest", slicer.set(setting, most), least);
    }

    private static void theTableNamesEveryTest(List<String> lines) throws IOException {
        Set<String> named = new TreeSet<>();
        for (String line : lines) {
            Matcher row = TEST.matcher(line);
            if (row.matches()) {
                named.add(row.group(1));
            }
        }
        try (Stream<Path> files = Files.list(Path.of("src", "test", "java"))) {
            Set<String> due = files.map(file -> file.getFileName().toString())
                    .filter(name -> name.endsWith("Test.java"))
                    .map(name -> name.substring(0, name.length() - ".java".length()))
                    .collect(Collectors.toCollection(TreeSet::new));
            checks.dueText("the tests that README.md names", named.toString(), due.toString());
        }
    }
}
