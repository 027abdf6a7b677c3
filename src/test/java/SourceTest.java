import java.lang.reflect.Constructor;
import java.lang.reflect.Field;
import java.lang.reflect.Method;
import java.lang.reflect.Modifier;
import java.util.ArrayList;
import java.util.Arrays;
import java.util.HashSet;
import java.util.List;
import java.util.Set;
import java.util.regex.Matcher;
import java.util.regex.Pattern;

/**
 * The class as a text: its face and sections as the document writes them, and those rules of ../shared/LANGUAGE.md that
 * can be told without reading it (the others, of loops and tests ahead of each use, are left to the reader).
 */
final class SourceTest {
    private static final String SECTION = "// ---- ";
    private static final Pattern SECTION_OF_CALLS =
        Pattern.compile("Ahead of the calls (.*) the interface says: ---- (.*)\\.");
    private static final Pattern LIBRARY_CALL = Pattern.compile("\\b([A-Z]\\w*)\\.(\\w+)\\(");
    private static final Pattern LIBRARY_ALLOWED = Pattern.compile(
        "(Math|Integer|Long)\\.\\w+(?<!Exact)|System\\.arraycopy|Arrays\\.(copyOf|copyOfRange|fill)|List\\.of");
    private static final Pattern THROWN =
        Pattern.compile("throw new (IllegalArgumentException|IllegalStateException)\\((\"[^\"]*\")?\\);");
    private static final Pattern FORBIDDEN = Pattern.compile(
        "\\b(package|import|finally|synchronized|assert|getMessage|Throwable|Exact)\\b|->|::|static \\{|\" *\\+|\\+ *\"");
    private static final Set<Class<?>> CONSTANT_TYPES =
        Set.of(int.class, long.class, boolean.class, char.class, String.class, int[].class, long[].class,
            char[].class, byte[].class);

    private final List<String> source = Texts.linesOf(Texts.CLASS);
    private final List<Class<?>> classes = new ArrayList<>();

    private SourceTest() {
        classes.add(WaterCascade.class);
        classes.addAll(Arrays.asList(WaterCascade.class.getDeclaredClasses()));
    }

    public static void main(String[] args) {
        SourceTest test = new SourceTest();
        test.faceIsAsTheDocumentWritesIt();
        test.callsStandInTheirSections();
        test.theProgramIsOneFile();
        test.rule1HiddenMembers();
        test.rule2ClassesInside();
        test.rule3Types();
        test.rule5StaticFields();
        test.rules4And6And10Words();
        test.rule11Sizes();
        Checks.end();
    }

    private void faceIsAsTheDocumentWritesIt() {
        List<String> due = new ArrayList<>();
        for (String line : Texts.javaIn(Texts.linesOf(Texts.DOCUMENT))) {
            if (line.startsWith("    public")) {
                due.add(line.replace(";", " {"));
            }
        }
        Checks.due("calls of the face in the document", due.size(), 24);
        List<String> shown = source.stream().filter(line -> line.startsWith("    public")).toList();
        if (!shown.equals(due)) {
            Checks.complain("the face is written " + shown);
        }
    }

    private void callsStandInTheirSections() {
        int sections = 0;
        for (String line : Texts.linesOf(Texts.DOCUMENT)) {
            Matcher parts = SECTION_OF_CALLS.matcher(line);
            if (parts.matches()) {
                sections++;
                for (String call : parts.group(1).replace("`", "").split(", ")) {
                    Checks.isTrue(call + " stands behind " + parts.group(2), parts.group(2).equals(sectionOf(call)));
                }
            }
        }
        Checks.due("sections in the document", sections, 4);
    }

    private String sectionOf(String call) {
        String section = "";
        for (String line : source) {
            String text = line.strip();
            if (text.startsWith(SECTION)) {
                section = text.substring(SECTION.length());
            }
            if (text.startsWith("public ") && text.contains(" " + call + "(")) {
                return section;
            }
        }
        return "no section";
    }

    private void theProgramIsOneFile() {
        Checks.isTrue("one file", Texts.filesIn(Texts.CLASS_FOLDER).equals(List.of("WaterCascade.java")));
    }

    private void rule1HiddenMembers() {
        Set<String> face = new HashSet<>();
        for (Method method : WaterCascade.class.getDeclaredMethods()) {
            if (Modifier.isPublic(method.getModifiers())) {
                face.add(method.getName());
            }
        }
        for (Class<?> type : classes) {
            for (Method method : type.getDeclaredMethods()) {
                boolean isPublic = Modifier.isPublic(method.getModifiers());
                Checks.isTrue(method + " is no call of the face or bears no name of one",
                    isPublic || !face.contains(method.getName()));
                Checks.isTrue(method + " is not protected", !Modifier.isProtected(method.getModifiers()));
            }
        }
    }

    private void rule2ClassesInside() {
        for (Class<?> type : classes.subList(1, classes.size())) {
            int modifiers = type.getModifiers();
            Checks.isTrue(type + " is hidden", !Modifier.isPublic(modifiers) && !Modifier.isProtected(modifiers));
            Checks.isTrue(type + " is static", Modifier.isStatic(modifiers));
            Checks.due("classes inside " + type, type.getDeclaredClasses().length, 0);
        }
    }

    private void rule3Types() {
        for (Class<?> type : classes) {
            for (Field field : type.getDeclaredFields()) {
                Checks.isTrue("type of " + field, isAllowed(field.getType()));
            }
            for (Method method : type.getDeclaredMethods()) {
                Checks.isTrue("answer of " + method, isAllowed(method.getReturnType()));
                for (Class<?> parameter : method.getParameterTypes()) {
                    Checks.isTrue("parameter of " + method, isAllowed(parameter));
                }
            }
        }
    }

    private boolean isAllowed(Class<?> type) {
        if (!type.isArray()) {
            return type.isPrimitive() || type == String.class || classes.contains(type);
        }
        Class<?> element = type.getComponentType();
        boolean ofNumbers = element.isArray() && element.getComponentType().isPrimitive();
        return element.isPrimitive() || ofNumbers || classes.contains(element);
    }

    private void rule5StaticFields() {
        for (Class<?> type : classes) {
            for (Field field : type.getDeclaredFields()) {
                if (Modifier.isStatic(field.getModifiers())) {
                    Checks.isTrue(field + " is final", Modifier.isFinal(field.getModifiers()));
                    Checks.isTrue(field + " is a constant", CONSTANT_TYPES.contains(field.getType()));
                }
            }
        }
    }

    private void rules4And6And10Words() {
        for (String line : source) {
            String text = line.strip();
            Checks.isTrue("signs 1 to 127: " + text, text.chars().allMatch(sign -> sign >= 1 && sign <= 127));
            if (text.startsWith("//") || text.startsWith("*") || text.startsWith("/*")) {
                continue;
            }
            Checks.isTrue("words that the rules allow: " + text, !FORBIDDEN.matcher(text).find());
            Checks.isTrue("exceptions that the document names: " + text,
                !text.contains("throw ") || THROWN.matcher(text).matches());
            LIBRARY_CALL.matcher(text).results()
                .map(call -> call.group(1) + "." + call.group(2))
                .forEach(call -> Checks.isTrue(call + " is in the library", LIBRARY_ALLOWED.matcher(call).matches()));
        }
    }

    private void rule11Sizes() {
        Checks.isTrue("at most 12 classes", classes.size() <= 12);
        for (Class<?> type : classes) {
            long fields = Arrays.stream(type.getDeclaredFields())
                .filter(field -> !Modifier.isStatic(field.getModifiers()))
                .count();
            Checks.isTrue(type + " has at most 20 fields", fields <= 20);
            for (Method method : type.getDeclaredMethods()) {
                Checks.isTrue(method + " takes at most 7", method.getParameterCount() <= 7);
            }
            for (Constructor<?> constructor : type.getDeclaredConstructors()) {
                Checks.isTrue(constructor + " takes at most 7", constructor.getParameterCount() <= 7);
            }
        }
        methodsAreShort();
    }

    /** What opens at a line that tells no class and ends at its brace is a method or less. */
    private void methodsAreShort() {
        List<Integer> open = new ArrayList<>();
        for (int number = 0; number < source.size(); number++) {
            String text = source.get(number).strip();
            if (text.startsWith("}") && !open.isEmpty()) {
                int start = open.remove(open.size() - 1);
                boolean isClass = source.get(start).contains(" class ");
                Checks.isTrue("at most 60 lines from line " + (start + 1), isClass || number - start < 60);
            }
            if (text.endsWith("{")) {
                open.add(number);
            }
        }
        Checks.due("blocks left open", open.size(), 0);
    }
}
