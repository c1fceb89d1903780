/** Runs every test of the project; ends with exit code 1 if one fails. */
final class AllTests {
    private AllTests() {
    }

    public static void main(String[] args) {
        run("FaceTest", FaceTest::all);
        run("LanguageTest", LanguageTest::all);
        run("ScriptTest", ScriptTest::all);
        run("EdgeTest", EdgeTest::all);
        run("ReadmeTest", ReadmeTest::all);
        run("WalkTest", WalkTest::all);
        run("LongTest", LongTest::all);
        run("ThrowTest", ThrowTest::all);
        System.out.println(Check.passed() + " passed, " + Check.failed() + " failed");
        if (Check.failed() > 0) {
            System.exit(1);
        }
    }

    private static void run(String name, Runnable test) {
        int before = Check.failed();
        try {
            test.run();
        } catch (RuntimeException exception) {
            exception.printStackTrace(System.out);
            Check.broken(name + " ended with " + exception);
        }
        System.out.println(name + (Check.failed() == before ? " holds" : " is BROKEN"));
    }
}
