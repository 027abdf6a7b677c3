import java.lang.reflect.Constructor;
import java.lang.reflect.Field;
import java.lang.reflect.Method;
import java.lang.reflect.Modifier;
import java.util.Arrays;
import java.util.HashSet;
import java.util.List;
import java.util.Set;
import java.util.TreeSet;
import java.util.stream.Collectors;

/** The public face is that of the document, with nothing beside it. */
final class FaceTest {
    private static final String ARGUMENT = " throws IllegalArgumentException";
    private static final String BOTH = ARGUMENT + ", IllegalStateException";
    private static final List<String> FACE = List.of(
        "void setPond(4)" + ARGUMENT,
        "int setInflow(3)" + ARGUMENT,
        "int setMinimum(2)" + ARGUMENT,
        "int order(3)" + ARGUMENT,
        "int setYield(4)" + ARGUMENT,
        "int run(1)" + BOTH,
        "int hour(0)",
        "int lend(3)" + BOTH,
        "int account(2)" + ARGUMENT,
        "int level(1)" + ARGUMENT,
        "int travelling(2)" + ARGUMENT,
        "int arriving(3)" + ARGUMENT,
        "int cameIn(1)" + ARGUMENT,
        "int gone(1)" + ARGUMENT,
        "int balance(1)" + ARGUMENT,
        "int spilled(1)" + ARGUMENT,
        "int missed(1)" + ARGUMENT,
        "int flow(1)" + ARGUMENT,
        "int energy(1)" + ARGUMENT,
        "int mix(2)" + ARGUMENT,
        "int bestEnergy(1)" + ARGUMENT,
        "int bestEnergyByAll(1)" + ARGUMENT,
        "int bestRelease(1)" + ARGUMENT);

    private FaceTest() {
    }

    public static void main(String[] args) {
        Checks.due("modifiers of the class", WaterCascade.class.getModifiers(), Modifier.PUBLIC | Modifier.FINAL);
        methodsAreThoseOfTheDocument();
        constructorTakesNothing();
        fieldsArePrivate();
        Checks.end();
    }

    private static void methodsAreThoseOfTheDocument() {
        Set<String> shown = new TreeSet<>();
        Set<String> hiddenNames = new HashSet<>();
        for (Method method : WaterCascade.class.getDeclaredMethods()) {
            if (Modifier.isPrivate(method.getModifiers())) {
                hiddenNames.add(method.getName());
            } else {
                Checks.due("modifiers of " + method.getName(), method.getModifiers(), Modifier.PUBLIC);
                shown.add(lineOf(method));
            }
        }
        if (!shown.equals(new TreeSet<>(FACE))) {
            Checks.complain("the face is " + shown);
        }
        for (String line : FACE) {
            String name = line.substring(line.indexOf(' ') + 1, line.indexOf('('));
            Checks.isTrue("no private method is named " + name, !hiddenNames.contains(name));
        }
    }

    private static String lineOf(Method method) {
        for (Class<?> type : method.getParameterTypes()) {
            Checks.isTrue("parameters of " + method.getName() + " are int", type == int.class);
        }
        String thrown = Arrays.stream(method.getExceptionTypes())
            .map(Class::getSimpleName)
            .collect(Collectors.joining(", "));
        return method.getReturnType() + " " + method.getName() + "(" + method.getParameterCount() + ")"
            + (thrown.isEmpty() ? "" : " throws " + thrown);
    }

    private static void constructorTakesNothing() {
        Constructor<?>[] all = WaterCascade.class.getDeclaredConstructors();
        Checks.due("number of constructors", all.length, 1);
        Checks.due("modifiers of the constructor", all[0].getModifiers(), Modifier.PUBLIC);
        Checks.due("parameters of the constructor", all[0].getParameterCount(), 0);
    }

    private static void fieldsArePrivate() {
        for (Field field : WaterCascade.class.getDeclaredFields()) {
            int modifiers = field.getModifiers();
            Checks.isTrue(field.getName() + " is private", Modifier.isPrivate(modifiers));
            Checks.isTrue(field.getName() + " is final, if static",
                !Modifier.isStatic(modifiers) || Modifier.isFinal(modifiers));
        }
    }
}
