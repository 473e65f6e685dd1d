import java.lang.reflect.Constructor;
import java.lang.reflect.Field;
import java.lang.reflect.Method;
import java.lang.reflect.Modifier;
import java.util.Arrays;
import java.util.Set;
import java.util.TreeSet;

/** The class shows the members of the document's face, and no others. */
public final class FaceTest {
    private static final Set<String> METHODS = new TreeSet<>(Arrays.asList(
            "int text(long)", "int filter(int)", "int register(int, int)", "int withdraw(int)",
            "boolean property(int, int, double, boolean)", "int describe(int, int, int, boolean, boolean)",
            "int reference(int, int, int, int)", "int enable(int, boolean)", "int get(int)", "int unget(int)",
            "int best(int, int)", "double value(int, int)", "int bound(int, int, int)", "int look(int, int)",
            "int service(int, int)", "int count(int)"));
    private static final Set<String> CONSTANTS =
            new TreeSet<>(Arrays.asList("OFF", "WAITING", "READY", "ACTIVE", "BROKEN"));

    public static void main(String[] args) {
        Class<?> hall = ServiceHall.class;
        Checks.due("public and final", hall.getModifiers(), Modifier.PUBLIC | Modifier.FINAL);
        Checks.dueText("methods", methodsShown(hall).toString(), METHODS.toString());
        Checks.dueText("constants", fieldsShown(hall).toString(), CONSTANTS.toString());
        for (Constructor<?> made : hall.getDeclaredConstructors()) {
            Checks.due("public constructor", made.getModifiers(), Modifier.PUBLIC);
            Checks.due("constructor's parameters", made.getParameterCount(), 0);
        }
        Checks.due("OFF", ServiceHall.OFF, 0);
        Checks.due("WAITING", ServiceHall.WAITING, 1);
        Checks.due("READY", ServiceHall.READY, 2);
        Checks.due("ACTIVE", ServiceHall.ACTIVE, 3);
        Checks.due("BROKEN", ServiceHall.BROKEN, 4);
        noPrivateMethodBearsAPublicName(hall);
        Checks.end();
    }

    private static Set<String> methodsShown(Class<?> hall) {
        Set<String> shown = new TreeSet<>();
        for (Method method : hall.getDeclaredMethods()) {
            if (!Modifier.isPrivate(method.getModifiers()) && !method.isSynthetic()) {
                String parameters = Arrays.toString(method.getParameterTypes());
                shown.add(method.getReturnType() + " " + method.getName()
                        + "(" + parameters.substring(1, parameters.length() - 1) + ")");
            }
        }
        return shown;
    }

    private static Set<String> fieldsShown(Class<?> hall) {
        Set<String> shown = new TreeSet<>();
        for (Field field : hall.getDeclaredFields()) {
            if (!Modifier.isPrivate(field.getModifiers()) && !field.isSynthetic()) {
                shown.add(field.getName());
            }
        }
        return shown;
    }

    private static void noPrivateMethodBearsAPublicName(Class<?> hall) {
        for (Method method : hall.getDeclaredMethods()) {
            if (Modifier.isPrivate(method.getModifiers())) {
                boolean borne = METHODS.stream().anyMatch(face -> face.contains(" " + method.getName() + "("));
                Checks.due("a public name for " + method.getName(), borne ? 1 : 0, 0);
            }
        }
    }
}
