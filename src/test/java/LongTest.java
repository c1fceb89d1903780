import java.util.ArrayList;
import java.util.List;

/**
 * A run that writes as many entries as 512 calls can, or nearly: none of them is lost, up to the 512th call. Behind it
 * the answers are free, but still nothing is thrown that the document does not name.
 */
final class LongTest {
    private static final List<String> ENTRY_CALLS = List.of("signAt ", "stepAt ", "personAt ", "minuteAt ");
    private static final int ENTRIES_A_LOOK = 25;

    private final List<String> calls = new ArrayList<>();

    private LongTest() {
    }

    static void all() {
        LongTest test = new LongTest();
        test.chooseCalls();
        test.lookAtTheLastEntry();
        test.lookAtAllEntries();
        callOn();
    }

    private void chooseCalls() {
        for (int number = 0; number < 8; number++) {
            calls.add("addPerson 1");
            calls.add("setDuty " + number + " true");
            calls.add("addStep 0 1 3 a true");
        }
        calls.add("start");
        while (calls.size() < Subject.MOST_CALLS) {
            forAll("begin %d %d", "pass 2");
            forAll("begin %d %d", "pass 2");
            forAll("begin %d %d", "pass 1");
            forAll("finish %d true", "undo 0");
        }
    }

    private void forAll(String call, String last) {
        for (int number = 0; number < 8; number++) {
            calls.add(String.format(call, number, number));
        }
        calls.add(last);
    }

    /** Only as many calls are made that the look at the last entry ends with the 512th. */
    private void lookAtTheLastEntry() {
        Subject subject = new Subject();
        Model model = new Model();
        for (String call : calls.subList(0, Subject.MOST_CALLS - ENTRY_CALLS.size())) {
            Check.same("long: " + call, model.answer(call), subject.answer(call));
        }
        int entries = Integer.parseInt(model.answer("entries"));
        Check.same("long: there are more entries than calls", true, entries > Subject.MOST_CALLS);
        look(model, subject, entries - 1, entries);
    }

    private void lookAtAllEntries() {
        int most = Subject.MOST_CALLS - ENTRIES_A_LOOK * ENTRY_CALLS.size() - 1;
        Model model = new Model();
        for (String call : calls.subList(0, most)) {
            model.answer(call);
        }
        int entries = Integer.parseInt(model.answer("entries"));
        for (int first = 0; first < entries; first += ENTRIES_A_LOOK) {
            Subject subject = new Subject();
            for (String call : calls.subList(0, most)) {
                subject.answer(call);
            }
            Check.same("long: entries", "" + entries, subject.answer("entries"));
            look(model, subject, first, Math.min(entries, first + ENTRIES_A_LOOK));
        }
    }

    private static void look(Model model, Subject subject, int first, int end) {
        for (int entry = first; entry < end; entry++) {
            for (String name : ENTRY_CALLS) {
                Check.same("long: " + name + entry, model.answer(name + entry), subject.answer(name + entry));
            }
        }
    }

    private static void callOn() {
        Runbooker runner = new Runbooker();
        runner.addPerson(1);
        runner.setDuty(0, true);
        runner.addStep(0, 1, 3, 'a', true);
        runner.start();
        for (int round = 0; round < 1000; round++) {
            runner.begin(0, 0);
            runner.pass(1);
            runner.finish(0, true);
            runner.undo(0);
        }
        Check.same("long: the state behind the last call", 'w', runner.stateOf(0));
    }
}
