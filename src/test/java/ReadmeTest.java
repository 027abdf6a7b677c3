import java.lang.reflect.InvocationTargetException;
import java.lang.reflect.Method;
import java.util.ArrayList;
import java.util.Arrays;
import java.util.List;
import java.util.Set;
import java.util.TreeSet;
import java.util.regex.Matcher;
import java.util.regex.Pattern;
import java.util.stream.Collectors;

/** What README.md says of the calls and of the tests is so. */
final class ReadmeTest {
    private static final Pattern EXAMPLE = Pattern.compile("river\\.(\\w+)\\(([-0-9, ]*)\\); *// (-?\\w+).*");
    private static final Pattern ROW = Pattern.compile("\\| `(\\w+)\\(([\\w, ]*)\\)` \\| ([^|]+) \\| [^|]+ \\|");
    private static final Pattern RANGE = Pattern.compile("`(\\w+)` (\\d+) to (\\d+)");
    private static final Pattern TEST = Pattern.compile("`(\\w+Test)`");

    private final List<String> readme = Texts.linesOf(Texts.README);
    private final Set<String> told = new TreeSet<>();

    private ReadmeTest() {
    }

    public static void main(String[] args) {
        ReadmeTest test = new ReadmeTest();
        test.exampleAnswersWhatItSays();
        test.rangesAreTheCalls();
        test.allCallsAreTold();
        test.allTestsAreTold();
        Checks.end();
    }

    private void exampleAnswersWhatItSays() {
        List<String> lines = Texts.javaIn(readme);
        Checks.isTrue("the example makes a new object",
            lines.get(0).equals("WaterCascade river = new WaterCascade();"));
        WaterCascade river = new WaterCascade();
        for (String line : lines.subList(1, lines.size())) {
            Matcher parts = EXAMPLE.matcher(line);
            if (!parts.matches()) {
                Checks.complain("the example has a line that can't be read: " + line);
                continue;
            }
            String answer = call(river, parts.group(1), numbersIn(parts.group(2)));
            if (!answer.equals(parts.group(3))) {
                Checks.complain("the example answers " + answer + ": " + line);
            }
        }
    }

    /** Each argument may be at both ends of the range that is told, and at none of the numbers beside them. */
    private void rangesAreTheCalls() {
        for (String line : readme) {
            Matcher parts = ROW.matcher(line);
            if (parts.matches()) {
                told.add(parts.group(1));
                rangesOf(parts.group(1), parts.group(2), RANGE.matcher(parts.group(3)));
            }
        }
    }

    private static void rangesOf(String name, String parameters, Matcher ranges) {
        List<String> named = new ArrayList<>();
        List<int[]> ends = new ArrayList<>();
        while (ranges.find()) {
            named.add(ranges.group(1));
            ends.add(new int[] {Integer.parseInt(ranges.group(2)), Integer.parseInt(ranges.group(3))});
        }
        if (!String.join(", ", named).equals(parameters)) {
            Checks.complain(name + " has the parameters " + parameters + ", but ranges of " + named);
            return;
        }
        for (int place = 0; place < ends.size(); place++) {
            int least = ends.get(place)[0];
            int most = ends.get(place)[1];
            dueRefusal(name, ends, place, least - 1, true);
            dueRefusal(name, ends, place, least, false);
            dueRefusal(name, ends, place, most, false);
            dueRefusal(name, ends, place, most + 1, true);
        }
    }

    private static void dueRefusal(String name, List<int[]> ends, int place, int value, boolean due) {
        int[] values = ends.stream().mapToInt(range -> range[0]).toArray();
        values[place] = value;
        boolean refused = call(new WaterCascade(), name, values).equals("IllegalArgumentException");
        Checks.isTrue(name + Arrays.toString(values) + (due ? " is refused" : " is not refused"), refused == due);
    }

    private void allCallsAreTold() {
        Set<String> calls = Arrays.stream(WaterCascade.class.getMethods())
            .filter(method -> method.getDeclaringClass() == WaterCascade.class)
            .map(Method::getName)
            .collect(Collectors.toCollection(TreeSet::new));
        if (!told.equals(calls)) {
            Checks.complain("README.md tells of the calls " + told);
        }
    }

    private void allTestsAreTold() {
        Set<String> named = new TreeSet<>();
        for (String line : readme) {
            TEST.matcher(line).results().forEach(found -> named.add(found.group(1) + ".java"));
        }
        Set<String> tests = Texts.filesIn(Texts.TEST_FOLDER).stream()
            .filter(file -> file.endsWith("Test.java"))
            .collect(Collectors.toCollection(TreeSet::new));
        if (!named.equals(tests)) {
            Checks.complain("README.md tells of the tests " + named);
        }
    }

    private static int[] numbersIn(String list) {
        return list.isEmpty() ? new int[0] : Arrays.stream(list.split(", ")).mapToInt(Integer::parseInt).toArray();
    }

    /** The answer as a text: a number, nothing, or the name of what was thrown. */
    private static String call(WaterCascade river, String name, int[] values) {
        Class<?>[] types = new Class<?>[values.length];
        Arrays.fill(types, int.class);
        try {
            Object answer = WaterCascade.class.getMethod(name, types).invoke(river, Arrays.stream(values).boxed().toArray());
            return answer == null ? "nothing" : answer.toString();
        } catch (InvocationTargetException e) {
            return e.getCause().getClass().getSimpleName();
        } catch (ReflectiveOperationException e) {
            return "no such call";
        }
    }
}
