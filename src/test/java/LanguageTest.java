import java.lang.reflect.Constructor;
import java.lang.reflect.Field;
import java.lang.reflect.Method;
import java.lang.reflect.Modifier;
import java.nio.file.Path;
import java.util.ArrayList;
import java.util.List;
import java.util.Set;
import java.util.TreeSet;
import java.util.regex.Matcher;
import java.util.regex.Pattern;

/** The rules of LANGUAGE.md that can be seen in the source by simple means, and in the classes that come of it. */
final class LanguageTest {
    private static final Path SOURCE = Path.of("src", "main", "java", "Runbooker.java");

    private static final Set<String> EXCEPTIONS = Set.of("IllegalStateException", "IllegalArgumentException",
            "IndexOutOfBoundsException", "UnsupportedOperationException", "NoSuchElementException");

    /** What the class uses of the library besides them, with a point before what is called on an object. */
    private static final Set<String> LIBRARY = Set.of("Integer.bitCount", "Math.max", "StringBuilder", ".append",
            ".length", ".charAt");

    private static final List<String> FORBIDDEN = List.of("->", "::", "static {", "Exact(", "synchronized", "assert",
            "finally", "catch", "toString", "hashCode", "package", "protected");

    private static final int MOST_LINES = 40;

    private final List<String> indented = ScriptTest.lines(SOURCE);
    private final List<String> code = new ArrayList<>();

    private LanguageTest() {
    }

    static void all() {
        LanguageTest test = new LanguageTest();
        test.readCode();
        test.checkImports();
        test.checkWords();
        test.checkLibrary();
        test.checkThrows();
        test.checkLengths();
        checkClass(Runbooker.class);
        Check.same("rule 11: not too many classes", true, Runbooker.class.getDeclaredClasses().length <= 11);
        for (Class<?> inside : Runbooker.class.getDeclaredClasses()) {
            checkClass(inside);
            Check.same("rule 2: no class inside " + inside.getName(), 0, inside.getDeclaredClasses().length);
        }
    }

    /** The source without comments and without what texts and signs hold. */
    private void readCode() {
        for (String line : indented) {
            Check.same("rule 3: signs from 1 to 127 alone in " + line, true, line.chars().allMatch(sign -> sign < 128));
            String bare = line.replaceAll("'.'", "' '").replaceAll("\"[^\"]*\"", "\"\"").replaceAll("//.*", "").strip();
            code.add(bare.startsWith("*") || bare.startsWith("/**") ? "" : bare);
        }
    }

    private void checkImports() {
        List<String> imports = code.stream().filter(line -> line.startsWith("import ")).toList();
        Check.same("rule 4: imports", List.of("import java.util.NoSuchElementException;"), imports);
    }

    private void checkWords() {
        for (String line : code) {
            for (String word : FORBIDDEN) {
                Check.same("no '" + word + "' in " + line, false, line.contains(word));
            }
        }
    }

    /** Each call with a point is one of a class inside, or one of the library that is listed. */
    private void checkLibrary() {
        Set<String> own = new TreeSet<>();
        for (Class<?> inside : Runbooker.class.getDeclaredClasses()) {
            for (Method method : inside.getDeclaredMethods()) {
                own.add("." + method.getName());
            }
        }
        Pattern call = Pattern.compile("([A-Z]\\w*)?(\\.\\w+)\\(");
        for (String line : code) {
            Matcher found = call.matcher(line);
            while (found.find()) {
                String name = found.group(1) == null ? found.group(2) : found.group(1) + found.group(2);
                Check.same("rule 4: " + name + " in " + line, true, own.contains(name) || LIBRARY.contains(name));
            }
        }
    }

    private void checkThrows() {
        Pattern due = Pattern.compile("throw new (\\w+)\\(\"\"\\);");
        for (String line : code) {
            if (line.matches(".*\\bthrow\\b.*")) {
                Matcher thrown = due.matcher(line);
                Check.same("rule 6: " + line, true, thrown.matches() && EXCEPTIONS.contains(thrown.group(1)));
            }
        }
    }

    /** A method of a class inside stands four blanks further in than one of the class itself. */
    private void checkLengths() {
        int methods = 0;
        int first = 0;
        String indent = "    ";
        for (int line = 0; line < indented.size(); line++) {
            String text = indented.get(line);
            if (text.matches("    private static final class \\w+ \\{")) {
                indent = "        ";
            } else if (text.matches(indent + "[a-zA-Z].*\\(.*[^;]")) {
                first = line;
                methods++;
            } else if (text.equals(indent + "}")) {
                Check.same("rule 11: short is the method of " + indented.get(first), true, line - first < MOST_LINES);
            } else if (text.equals("    }")) {
                indent = "    ";
            }
        }
        Check.same("rule 11: all methods are looked at", true, methods >= countMethods());
    }

    private static int countMethods() {
        int count = Runbooker.class.getDeclaredMethods().length;
        for (Class<?> inside : Runbooker.class.getDeclaredClasses()) {
            count += inside.getDeclaredMethods().length;
        }
        return count;
    }

    private static void checkClass(Class<?> type) {
        String name = type.getName();
        int fields = 0;
        for (Field field : type.getDeclaredFields()) {
            boolean isStatic = Modifier.isStatic(field.getModifiers());
            fields += isStatic ? 0 : 1;
            Check.same("rule 5: " + name + "." + field.getName(), true, !isStatic || Modifier.isFinal(field.getModifiers()));
        }
        Check.same("rule 11: not too many fields in " + name, true, fields <= 20);
        for (Method method : type.getDeclaredMethods()) {
            Check.same("rule 11: not too many parameters: " + method, true, method.getParameterCount() <= 7);
        }
        for (Constructor<?> constructor : type.getDeclaredConstructors()) {
            Check.same("rule 6: no throw in " + constructor, 0, constructor.getExceptionTypes().length);
        }
    }
}
