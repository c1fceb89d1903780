import java.lang.reflect.InvocationTargetException;
import java.lang.reflect.Method;
import java.lang.reflect.Modifier;
import java.nio.file.Path;
import java.util.Arrays;
import java.util.Comparator;
import java.util.List;
import java.util.Random;
import java.util.Set;
import java.util.TreeSet;

/**
 * Calls of any kind with numbers from everywhere, chosen by fixed seeds, more of them than an object is made for: whatever
 * is thrown comes from a throw statement, never from the machine, and is named in the face; and each kind is seen once.
 */
final class ThrowTest {
    private static final int OBJECTS = 1200;
    private static final int CALLS = 1500;
    private static final int[] FAR = {Integer.MIN_VALUE, -1000, -999, -1, 16, 31, 32, 33, 64, 240, 241, 256, 999, 1000,
        65536, 1 << 30, Integer.MAX_VALUE};
    private static final char[] SIGNS = {'a', 'o', '<', '>', '=', 'b', 0, 65535};

    private final List<String> source = ScriptTest.lines(Path.of("src", "main", "java", "Runbooker.java"));
    private final Set<String> seen = new TreeSet<>();

    private ThrowTest() {
    }

    static void all() {
        ThrowTest test = new ThrowTest();
        Method[] face = Arrays.stream(Runbooker.class.getDeclaredMethods())
                .filter(method -> Modifier.isPublic(method.getModifiers()))
                .sorted(Comparator.comparing(Method::getName)).toArray(Method[]::new);
        for (int seed = 0; seed < OBJECTS; seed++) {
            test.walk(face, new Random(seed));
        }
        for (Method method : face) {
            for (Class<?> due : method.getExceptionTypes()) {
                String kind = method.getName() + " " + due.getSimpleName();
                Check.same("it is thrown once: " + kind, true, test.seen.contains(kind));
            }
        }
    }

    private void walk(Method[] face, Random random) {
        Runbooker runner = new Runbooker();
        for (int call = 0; call < CALLS; call++) {
            Method method = face[random.nextInt(face.length)];
            // a run that ends as often as it begins is too short for anything to happen in it
            if (!method.getName().equals("close") || random.nextInt(4) == 0) {
                call(runner, method, random);
            }
        }
    }

    private void call(Runbooker runner, Method method, Random random) {
        Object[] arguments = new Object[method.getParameterCount()];
        for (int index = 0; index < arguments.length; index++) {
            arguments[index] = argument(method.getParameterTypes()[index], random);
        }
        try {
            method.invoke(runner, arguments);
        } catch (InvocationTargetException exception) {
            look(method, arguments, exception.getCause());
        } catch (IllegalAccessException exception) {
            throw new IllegalStateException(exception);
        }
    }

    private static Object argument(Class<?> type, Random random) {
        if (type == int.class) {
            boolean isFar = random.nextInt(12) == 0;
            return isFar ? FAR[random.nextInt(FAR.length)] : random.nextInt(random.nextBoolean() ? 4 : 18);
        }
        return type == char.class ? (Object) SIGNS[random.nextInt(SIGNS.length)] : (Object) random.nextBoolean();
    }

    private void look(Method method, Object[] arguments, Throwable thrown) {
        String kind = method.getName() + " " + thrown.getClass().getSimpleName();
        // the machine leaves the places out when it has thrown the same often
        StackTraceElement[] places = thrown.getStackTrace();
        String place = places.length == 0 ? "nowhere" : places[0].toString();
        boolean isOurs = place.startsWith("Runbooker")
                && source.get(places[0].getLineNumber() - 1).contains("throw new " + thrown.getClass().getSimpleName());
        boolean isNamed = Arrays.asList(method.getExceptionTypes()).contains(thrown.getClass());
        Check.same(kind + " with " + Arrays.toString(arguments) + " at " + place, true, isOurs && isNamed);
        seen.add(kind);
    }
}
