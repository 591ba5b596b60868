import java.lang.reflect.Field;
import java.lang.reflect.Method;
import java.lang.reflect.Modifier;
import java.util.Arrays;
import java.util.Set;
import java.util.TreeSet;

/** The public face of the document, and rule 1 of LANGUAGE.md: no other member that is not private. */
final class FaceTest {
    private static final String[] METHODS = {
        "int type(int)", "int wipe()", "int node(int, int, int, int)", "int clear()", "int evaluate(int)",
        "int attempt(int)", "long result(int)", "int place(int)", "long variable(int, int)", "int bound(int)",
        "int level(int)", "boolean used(int)", "int count(int)"
    };

    public static void main(String[] args) {
        Check check = new Check();
        Class<?> face = GoalScanner.class;
        check.due("modifiers", Modifier.toString(face.getModifiers()), "public final");
        check.due("constructors", Arrays.toString(face.getDeclaredConstructors()), "[public GoalScanner()]");
        check.due("methods", openMethods(face).toString(), new TreeSet<>(Arrays.asList(METHODS)).toString());
        check.due("fields", openFields(face).toString(),
            "[public static final int REFUSED, public static final long NONE]");
        check.due("REFUSED", GoalScanner.REFUSED, -1);
        check.due("NONE", GoalScanner.NONE, 1000000000000L);
        privateNames(check, face);
        classesInside(check, face);
        check.end();
    }

    private static Set<String> openMethods(Class<?> face) {
        Set<String> open = new TreeSet<>();
        for (Method method : face.getDeclaredMethods()) {
            if (!Modifier.isPrivate(method.getModifiers())) {
                String types = Arrays.toString(method.getParameterTypes()).replace('[', '(').replace(']', ')');
                open.add(method.getReturnType() + " " + method.getName() + types);
            }
        }
        return open;
    }

    private static Set<String> openFields(Class<?> face) {
        Set<String> open = new TreeSet<>();
        for (Field field : face.getDeclaredFields()) {
            if (!Modifier.isPrivate(field.getModifiers())) {
                open.add(Modifier.toString(field.getModifiers()) + " " + field.getType() + " " + field.getName());
            }
        }
        return open;
    }

    private static void privateNames(Check check, Class<?> face) {
        for (Method method : face.getDeclaredMethods()) {
            for (String open : METHODS) {
                boolean sameName = open.contains(" " + method.getName() + "(");
                check.due("private " + method.getName(), sameName && Modifier.isPrivate(method.getModifiers()), false);
            }
        }
    }

    private static void classesInside(Check check, Class<?> face) {
        for (Class<?> inside : face.getDeclaredClasses()) {
            boolean open = Modifier.isPublic(inside.getModifiers()) || Modifier.isProtected(inside.getModifiers());
            check.due(inside + " is open", open, false);
            check.due(inside + " is static", Modifier.isStatic(inside.getModifiers()), true);
        }
    }
}
