import java.io.IOException;

/**
 * A test for each sentence of promises 1 to 22 and of the terms that they stand on, at the boundaries that it names.
 * A sentence of the document without a test is a failure, too.
 */
public final class BoundaryTest {
    public static void main(String[] args) throws IOException {
        Checks checks = new Checks("BoundaryTest");
        Sentences sentences = new Sentences(checks);
        new DocumentBoundaries(checks).test(sentences);
        new QuestionBoundaries(checks).test(sentences);
        new PlanBoundaries(checks).test(sentences);
        new PlanCallBoundaries(checks).test(sentences);
        new RunBoundaries(checks).test(sentences);
        new RunCallBoundaries(checks).test(sentences);
        new ExceptionBoundaries(checks).test(sentences);
        sentences.end();
        checks.end();
    }
}
