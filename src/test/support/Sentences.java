import java.io.IOException;

/** Runs a test for each sentence of the document; where one fails, its promise and the sentence are printed. */
final class Sentences {
    private final Checks checks;
    private final Document document;
    private String section = "";
    private String promises = "";
    private int tests = 0;

    Sentences(Checks checks) throws IOException {
        this.checks = checks;
        document = new Document();
    }

    /** The sentences that come next stand in this section, and these promises stand on it. */
    void in(String newSection, String newPromises) {
        section = newSection;
        promises = newPromises;
    }

    /** The sentences that come next stand in the section of a promise. */
    void in(int promise) {
        in("Promise " + promise, "promise " + promise);
    }

    void test(String sentence, Runnable test) {
        tests++;
        note(sentence);
        int before = checks.done();
        try {
            test.run();
        } catch (RuntimeException thrown) {
            // Of a call that throws where it must not, the other sentences are tested all the same.
            checks.same("a call", "throws " + thrown, "nothing thrown");
        }
        checks.same("checks were made", checks.done() > before, true);
    }

    /** A sentence that promises nothing: no test is about it. */
    void withoutPromise(String sentence) {
        note(sentence);
    }

    private void note(String sentence) {
        checks.topic(promises + ", \"" + sentence + "\"");
        checks.same("it stands in the section " + section, document.take(section, sentence), true);
    }

    void end() {
        checks.topic("all promises");
        for (String untested : document.untested()) {
            checks.same("a test of its own", "none", untested);
        }
        System.out.println(tests + " sentences have a test of their own");
    }
}
