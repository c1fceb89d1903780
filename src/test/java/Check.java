import java.util.Objects;

/** Counts what holds and what does not, and tells the latter. */
final class Check {
    private static int passed = 0;
    private static int failed = 0;

    private Check() {
    }

    static int passed() {
        return passed;
    }

    static int failed() {
        return failed;
    }

    static void same(String what, Object due, Object got) {
        if (Objects.equals(due, got)) {
            passed++;
        } else {
            broken(what + ": due is " + due + ", but it is " + got);
        }
    }

    static void broken(String what) {
        failed++;
        System.out.println("BROKEN " + what);
    }
}
