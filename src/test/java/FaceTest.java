import java.lang.reflect.Constructor;
import java.lang.reflect.Field;
import java.lang.reflect.Method;
import java.lang.reflect.Modifier;
import java.util.Set;
import java.util.TreeSet;

/** The public face, which all promises stand on: each signature of the document, and no other member to be seen. */
public final class FaceTest {
    private static final Set<String> FACE = Set.of(
        "int feed(int, int, int)", "int setArea(int, int)", "int addBoiler(int, int, int)", "int setError(int, int)",
        "int repair(int, int)", "int hour(int)", "int hours()", "int load(int)", "int fired(int)", "int got(int)",
        "int meter(int)", "boolean isSuspected(int)", "int losses()", "int bill(int)", "int cost()",
        "boolean isOpen(int)");

    public static void main(String[] args) {
        Checks checks = new Checks();
        checks.due("the class is public and final", HeatGuild.class.getModifiers(), Modifier.PUBLIC | Modifier.FINAL);
        checks.due("the visible methods " + visibleMethods(), visibleMethods().equals(FACE), true);
        checks.due("constructors", HeatGuild.class.getDeclaredConstructors().length, 1);
        for (Constructor<?> constructor : HeatGuild.class.getDeclaredConstructors()) {
            checks.due("the constructor's modifiers", constructor.getModifiers(), Modifier.PUBLIC);
            checks.due("the constructor's arguments", constructor.getParameterCount(), 0);
        }
        for (Field field : HeatGuild.class.getDeclaredFields()) {
            checks.due("private field " + field.getName(), Modifier.isPrivate(field.getModifiers()), true);
        }
        checkExceptions(checks);
        checks.finish("FaceTest");
    }

    private static Set<String> visibleMethods() {
        Set<String> seen = new TreeSet<>();
        for (Method method : HeatGuild.class.getDeclaredMethods()) {
            if (!Modifier.isPrivate(method.getModifiers())) {
                StringBuilder types = new StringBuilder();
                for (Class<?> type : method.getParameterTypes()) {
                    types.append(types.length() == 0 ? "" : ", ").append(type.getName());
                }
                seen.add(method.getReturnType().getName() + " " + method.getName() + "(" + types + ")");
            }
        }
        return seen;
    }

    private static void checkExceptions(Checks checks) {
        for (Method method : HeatGuild.class.getDeclaredMethods()) {
            if (Modifier.isPublic(method.getModifiers())) {
                checks.due(method.getName() + " names its exceptions", method.getExceptionTypes().length,
                    exceptionsOf(method.getName()));
            }
        }
    }

    private static int exceptionsOf(String name) {
        return switch (name) {
            case "feed", "addBoiler", "repair" -> 2;
            case "hours", "losses", "cost" -> 0;
            default -> 1;
        };
    }
}
