import java.util.ArrayList;
import java.util.List;

/**
 * A run that writes as many entries as 512 calls can, or nearly: none of them is lost. Behind the 512th call the answers
 * are free, but still nothing is thrown that the document does not name.
 */
final class LongTest {
    private static final int QUERIES = 100;

    private final List<String> calls = new ArrayList<>();

    private LongTest() {
    }

    static void all() {
        LongTest test = new LongTest();
        test.chooseCalls();
        test.compare();
        callOn();
    }

    private void chooseCalls() {
        for (int number = 0; number < 8; number++) {
            calls.add("addPerson 1");
            calls.add("setDuty " + number + " true");
            calls.add("addStep 0 1 3 a true");
        }
        calls.add("start");
        while (calls.size() < Subject.MOST_CALLS - QUERIES - 40) {
            forAll("begin %d %d", "pass 2");
            forAll("begin %d %d", "pass 2");
            forAll("begin %d %d", "pass 1");
            forAll("finish %d true", "undo 0");
        }
    }

    private void forAll(String call, String last) {
        for (int number = 0; number < 8; number++) {
            calls.add(String.format(call, number, number));
        }
        calls.add(last);
    }

    private void compare() {
        Subject subject = new Subject();
        Model model = new Model();
        for (String call : calls) {
            Check.same("long: " + call, model.answer(call), subject.answer(call));
        }
        int entries = Integer.parseInt(model.answer("entries"));
        Check.same("long: there are more entries than calls", true, entries > Subject.MOST_CALLS);
        Check.same("long: entries", "" + entries, subject.answer("entries"));
        for (int entry = entries - 20; entry < entries; entry++) {
            for (String name : List.of("signAt ", "stepAt ", "personAt ", "minuteAt ")) {
                Check.same("long: " + name + entry, model.answer(name + entry), subject.answer(name + entry));
            }
        }
    }

    private static void callOn() {
        Runbooker runner = new Runbooker();
        runner.addPerson(1);
        runner.setDuty(0, true);
        runner.addStep(0, 1, 3, 'a', true);
        runner.start();
        for (int round = 0; round < 1000; round++) {
            runner.begin(0, 0);
            runner.pass(1);
            runner.finish(0, true);
            runner.undo(0);
        }
        Check.same("long: the state behind the last call", 'w', runner.stateOf(0));
    }
}
