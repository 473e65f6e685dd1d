import java.lang.reflect.Constructor;
import java.lang.reflect.Field;
import java.lang.reflect.Method;
import java.lang.reflect.Modifier;
import java.util.Arrays;
import java.util.Set;
import java.util.TreeSet;

/** The class shows the members of the document's face, and no others. */
public final class FaceTest {
    private static final String A = "IllegalArgumentException";
    private static final String E = "NoSuchElementException";
    private static final String S = "IllegalStateException";
    private static final String I = "IndexOutOfBoundsException";
    private static final Set<String> METHODS = new TreeSet<>(Arrays.asList(
            "int text(long) " + A + " " + I, "int filter(int) " + A + " " + S,
            "int register(int, int) " + A + " " + I, "int withdraw(int) " + E,
            "boolean property(int, int, double, boolean) " + E + " " + A,
            "int describe(int, int, int, boolean, boolean) " + A + " " + S,
            "int reference(int, int, int, int) " + A + " " + E + " " + S + " " + I,
            "int enable(int, boolean) " + A, "int get(int) " + E + " " + S, "int unget(int) " + E,
            "int best(int, int) " + A + " " + E, "double value(int, int) " + E + " " + A,
            "int bound(int, int, int) " + A + " " + I, "int look(int, int) " + A,
            "int service(int, int) " + E + " " + A, "int count(int) " + A));
    private static final Set<String> CONSTANTS =
            new TreeSet<>(Arrays.asList("OFF", "WAITING", "READY", "ACTIVE", "BROKEN"));

    public static void main(String[] args) {
        Class<?> hall = ServiceHall.class;
        Checks.due("public and final", hall.getModifiers(), Modifier.PUBLIC | Modifier.FINAL);
        Checks.dueText("methods", methodsShown(hall).toString(), METHODS.toString());
        Checks.dueText("constants", fieldsShown(hall).toString(), CONSTANTS.toString());
        for (Constructor<?> made : hall.getDeclaredConstructors()) {
            Checks.due("public constructor", made.getModifiers(), Modifier.PUBLIC);
            Checks.due("constructor's parameters", made.getParameterCount(), 0);
        }
        Checks.due("OFF", ServiceHall.OFF, 0);
        Checks.due("WAITING", ServiceHall.WAITING, 1);
        Checks.due("READY", ServiceHall.READY, 2);
        Checks.due("ACTIVE", ServiceHall.ACTIVE, 3);
        Checks.due("BROKEN", ServiceHall.BROKEN, 4);
        noPrivateMethodBearsAPublicName(hall);
        Checks.end();
    }

    private static Set<String> methodsShown(Class<?> hall) {
        Set<String> shown = new TreeSet<>();
        for (Method method : hall.getDeclaredMethods()) {
            if (!Modifier.isPrivate(method.getModifiers()) && !method.isSynthetic()) {
                String parameters = Arrays.toString(method.getParameterTypes());
                StringBuilder heading = new StringBuilder(method.getReturnType() + " " + method.getName()
                        + "(" + parameters.substring(1, parameters.length() - 1) + ")");
                for (Class<?> thrown : method.getExceptionTypes()) {
                    heading.append(' ').append(thrown.getSimpleName());
                }
                shown.add(heading.toString());
            }
        }
        return shown;
    }

    private static Set<String> fieldsShown(Class<?> hall) {
        Set<String> shown = new TreeSet<>();
        for (Field field : hall.getDeclaredFields()) {
            if (!Modifier.isPrivate(field.getModifiers()) && !field.isSynthetic()) {
                shown.add(field.getName());
            }
        }
        return shown;
    }

    private static void noPrivateMethodBearsAPublicName(Class<?> hall) {
        for (Method method : hall.getDeclaredMethods()) {
            if (Modifier.isPrivate(method.getModifiers())) {
                boolean borne = METHODS.stream().anyMatch(face -> face.contains(" " + method.getName() + "("));
                Checks.due("a public name for " + method.getName(), borne ? 1 : 0, 0);
            }
        }
    }
}
