import java.lang.reflect.Constructor;
import java.lang.reflect.Field;
import java.lang.reflect.Method;
import java.lang.reflect.Modifier;
import java.nio.file.Path;
import java.util.StringJoiner;
import java.util.TreeSet;

/** The face is the document's, whole and with nothing beyond it. */
final class FaceTest {
    static final Path DOCUMENT = Path.of("..", "shared", "DOC.md");

    private FaceTest() {
    }

    static void all() {
        Check.same("the methods", dueMethods(), methods());
        Check.same("the constructors", "[public Runbooker()]", constructors());
        Check.same("the class is public and final", "public final", Modifier.toString(Runbooker.class.getModifiers()));
        for (Field field : Runbooker.class.getDeclaredFields()) {
            Check.same("field " + field.getName() + " is private", true, Modifier.isPrivate(field.getModifiers()));
        }
        TreeSet<String> publicNames = methodNames(true);
        publicNames.retainAll(methodNames(false));
        Check.same("private methods with the name of a public one", new TreeSet<String>(), publicNames);
        for (Class<?> inside : Runbooker.class.getDeclaredClasses()) {
            Check.same(inside.getName() + " is static", true, Modifier.isStatic(inside.getModifiers()));
            Check.same(inside.getName() + " is not public", false, Modifier.isPublic(inside.getModifiers()));
        }
    }

    private static TreeSet<String> dueMethods() {
        TreeSet<String> due = new TreeSet<>();
        for (String line : ScriptTest.lines(DOCUMENT)) {
            if (line.startsWith("    public ") && !line.contains(" Runbooker(")) {
                due.add(withoutNames(line.strip().replace(";", "")));
            }
        }
        return due;
    }

    private static String withoutNames(String face) {
        int end = face.indexOf(')') + 1;
        return face.substring(0, end).replaceAll(" \\w+([,)])", "$1") + face.substring(end);
    }

    private static TreeSet<String> methods() {
        TreeSet<String> found = new TreeSet<>();
        for (Method method : Runbooker.class.getDeclaredMethods()) {
            if (!Modifier.isPrivate(method.getModifiers())) {
                found.add(Modifier.toString(method.getModifiers()) + " " + method.getReturnType().getSimpleName() + " "
                        + method.getName() + "(" + names(method.getParameterTypes()) + ")"
                        + thrown(method.getExceptionTypes()));
            }
        }
        return found;
    }

    private static TreeSet<String> methodNames(boolean isPublic) {
        TreeSet<String> names = new TreeSet<>();
        for (Method method : Runbooker.class.getDeclaredMethods()) {
            if (Modifier.isPublic(method.getModifiers()) == isPublic) {
                names.add(method.getName());
            }
        }
        return names;
    }

    private static String constructors() {
        TreeSet<String> found = new TreeSet<>();
        for (Constructor<?> constructor : Runbooker.class.getDeclaredConstructors()) {
            found.add(Modifier.toString(constructor.getModifiers()) + " Runbooker("
                    + names(constructor.getParameterTypes()) + ")" + thrown(constructor.getExceptionTypes()));
        }
        return found.toString();
    }

    private static String names(Class<?>[] types) {
        StringJoiner names = new StringJoiner(", ");
        for (Class<?> type : types) {
            names.add(type.getSimpleName());
        }
        return names.toString();
    }

    private static String thrown(Class<?>[] types) {
        return types.length == 0 ? "" : " throws " + names(types);
    }
}
