import java.util.function.Consumer;
import java.util.function.IntSupplier;

/** Counts the checks of one test, prints those that fail, and ends the test. */
final class Checks {
    /** A call that is due to throw. */
    interface Call {
        void run();
    }

    /** Far above what the slowest test needs, which is some seconds. */
    private static final long MOST_MILLISECONDS = 180_000;

    private final String test;
    private int done = 0;
    private int wrong = 0;
    private volatile String promise = "";

    Checks(String test) {
        this.test = test;
        Thread watch = new Thread(this::endLate);
        watch.setDaemon(true);
        watch.start();
    }

    /** A call that does not end (rule 7 of LANGUAGE.md) is a failure, too, and must not hold up the tests. */
    private void endLate() {
        try {
            Thread.sleep(MOST_MILLISECONDS);
        } catch (InterruptedException interrupted) {
            return;
        }
        System.out.println(test + ": " + promise + ": a call has not ended, or the test is far too slow");
        Runtime.getRuntime().halt(1);
    }

    void promise(int number, String name) {
        promise = "promise " + number + ", " + name;
    }

    void topic(String name) {
        promise = name;
    }

    int done() {
        return done;
    }

    void same(String what, long got, long due) {
        same(what, Long.toString(got), Long.toString(due));
    }

    void same(String what, boolean got, boolean due) {
        same(what, Boolean.toString(got), Boolean.toString(due));
    }

    void same(String what, String got, String due) {
        done++;
        if (!got.equals(due)) {
            wrong++;
            System.out.println(test + ": " + promise + ": " + what + " answered " + got + ", due is " + due);
        }
    }

    void throwsIndex(String what, Call call) {
        same(what, thrownBy(call), "IndexOutOfBoundsException");
    }

    void throwsArgument(String what, Call call) {
        same(what, thrownBy(call), "IllegalArgumentException");
    }

    void throwsState(String what, Call call) {
        same(what, thrownBy(call), "IllegalStateException");
    }

    /** A refused call throws just this, and leaves each of these objects like one that was not called so. */
    void refused(String what, String due, Consumer<PostingPlanner> call, Samples.Sample... samples) {
        for (Samples.Sample sample : samples) {
            PostingPlanner called = sample.made.get();
            same(what + " of " + sample.name, thrownBy(() -> call.accept(called)), due);
            same(what + ", what it leaves of " + sample.name, whole(called), whole(sample.made.get()));
        }
    }

    void refusedIndex(String what, Consumer<PostingPlanner> call, Samples.Sample... samples) {
        refused(what, "IndexOutOfBoundsException", call, samples);
    }

    void refusedArgument(String what, Consumer<PostingPlanner> call, Samples.Sample... samples) {
        refused(what, "IllegalArgumentException", call, samples);
    }

    void refusedState(String what, Consumer<PostingPlanner> call, Samples.Sample... samples) {
        refused(what, "IllegalStateException", call, samples);
    }

    /** The exact class: what the machine throws is often one below what the document names. */
    private static String thrownBy(Call call) {
        try {
            call.run();
        } catch (RuntimeException thrown) {
            return thrown.getClass().getSimpleName();
        }
        return "nothing thrown";
    }

    /** All that can be asked of an object without changing it, but for the readings of its run. */
    static String picture(PostingPlanner planner) {
        StringBuilder picture = new StringBuilder();
        picture.append("documents ").append(planner.documents()).append(" counts");
        for (int word = 0; word < 8; word++) {
            picture.append(' ').append(planner.count(word));
        }
        picture.append(" hits ").append(planner.hits()).append(" matches ");
        for (int document = 0; document < 40; document++) {
            picture.append(planner.matches(document) ? '1' : '0');
        }
        return picture.append(' ').append(plan(planner)).toString();
    }

    /** All that an object holds, also its run and its question as it was told; the object is spent then. */
    static String whole(PostingPlanner planner) {
        StringBuilder whole = new StringBuilder(picture(planner));
        whole.append(" run ").append(thrownBy(planner::readings).equals("nothing thrown") ? rest(planner) : "none");
        whole.append(" literals");
        for (int number = 0; number < 5; number++) {
            int clause = number;
            whole.append(' ').append(answer(() -> planner.literal(clause, 7, false)));
        }
        whole.append(" clause ").append(answer(() -> planner.clause(PostingPlanner.ANY, 0, false)));
        whole.append(" then ").append(picture(planner));
        return whole.append(" clauses ").append(planner.ask(PostingPlanner.ALL, 0)).toString();
    }

    private static String answer(IntSupplier call) {
        try {
            return Integer.toString(call.getAsInt());
        } catch (RuntimeException thrown) {
            return thrown.getClass().getSimpleName();
        }
    }

    /** What the run gives from now on, each document with the readings until then, as DOCUMENT/READINGS. */
    static String rest(PostingPlanner planner) {
        StringBuilder rest = new StringBuilder();
        for (int i = 0; i < 41; i++) {
            int document = planner.next();
            rest.append(i == 0 ? "" : " ").append(document).append('/').append(planner.readings());
            if (document == PostingPlanner.NONE) {
                return rest.toString();
            }
        }
        return rest.append(" too many").toString();
    }

    /** A run from its begin, as ESTIMATE: DOCUMENT/READINGS ... */
    static String wholeRun(PostingPlanner planner) {
        return planner.begin() + ": " + rest(planner);
    }

    /** The documents that match, as DOCUMENT DOCUMENT ... */
    static String matching(PostingPlanner planner) {
        StringBuilder matching = new StringBuilder();
        for (int document = 0; document < 40; document++) {
            if (planner.matches(document)) {
                matching.append(matching.length() == 0 ? "" : " ").append(document);
            }
        }
        return matching.toString();
    }

    /** The plan, as KIND/NEED~ESTIMATE[NUMBER:KIND~ESTIMATE(LITERAL,LITERAL) ...]. */
    static String plan(PostingPlanner planner) {
        StringBuilder plan = new StringBuilder(kind(planner.planKind()));
        plan.append('/').append(planner.planNeed()).append('~').append(planner.estimate()).append('[');
        for (int place = 0; place < planner.planSize(); place++) {
            plan.append(place == 0 ? "" : " ").append(planner.clauseAt(place)).append(':')
                    .append(kind(planner.kindAt(place))).append('~').append(planner.estimateAt(place))
                    .append('(').append(literals(planner, place)).append(')');
        }
        return plan.append(']').toString();
    }

    private static String literals(PostingPlanner planner, int place) {
        StringBuilder literals = new StringBuilder();
        // There is no call for the number of literals: they end where literalAt throws.
        for (int index = 0; index < 7; index++) {
            try {
                int literal = planner.literalAt(place, index);
                literals.append(index == 0 ? "" : ",").append(literal % 2 == 1 ? "-" : "").append(literal / 2);
            } catch (IllegalArgumentException end) {
                return literals.toString();
            }
        }
        return literals.append(" too many").toString();
    }

    private static String kind(int kind) {
        String[] names = {"ALL", "ANY", "SOME", "ALWAYS", "NEVER"};
        return kind >= 0 && kind < names.length ? names[kind] : "kind " + kind;
    }

    /** Adds a clause with these literals; -1 is the word 0 negated, -8 the word 7 negated. */
    static int clause(PostingPlanner planner, int kind, int need, boolean isNegated, int... literals) {
        int number = planner.clause(kind, need, isNegated);
        for (int literal : literals) {
            planner.literal(number, literal < 0 ? -literal - 1 : literal, literal < 0);
        }
        return number;
    }

    void end() {
        System.out.println(test + ": " + done + " checks, " + wrong + " wrong");
        if (wrong != 0 || done == 0) {
            System.exit(1);
        }
    }
}
