import java.util.HashSet;
import java.util.Set;

/** Tests that bear the name of a promise and of the sentence of the document that each holds the class to. */
final class Sentences {
    private final Check check = new Check();
    private final Book book = new Book();
    private final Set<String> named = new HashSet<>();
    private final Set<Integer> promises = new HashSet<>();
    private Run run;

    /** Begins the test of a sentence, on a new object; it ends as the next one begins. */
    Run test(int promise, String sentence) {
        endRun();
        String name = "promise " + promise + ", \"" + sentence + "\": ";
        check.due(name + "stands in the document", book.says(promise, sentence) ? 1 : 0, 1);
        check.due(name + "has one test", named.add(name) ? 1 : 0, 1);
        promises.add(promise);
        run = new Run(check, name);
        return run;
    }

    /** Ends all; each of the promises must have had a test. */
    void end(int... due) {
        endRun();
        for (int promise : due) {
            check.due("tests of promise " + promise, promises.contains(promise) ? 1 : 0, 1);
        }
        System.out.println(named.size() + " sentences");
        check.end();
    }

    private void endRun() {
        if (run != null) {
            run.end();
        }
        run = null;
    }
}
