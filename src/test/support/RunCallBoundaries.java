/** The sentences of promises 19 to 22: the calls of a run. */
final class RunCallBoundaries {
    private static final int ALL = Samples.ALL;
    private static final int ANY = Samples.ANY;
    private static final int SOME = Samples.SOME;
    private static final int NONE = Samples.NONE;

    private final Checks checks;

    RunCallBoundaries(Checks checks) {
        this.checks = checks;
    }

    void test(Sentences sentences) {
        begin(sentences);
        leap(sentences);
        next(sentences);
        readings(sentences);
    }

    private void begin(Sentences sentences) {
        sentences.in(19);
        sentences.test("`int begin()`: Begins a run, in place of the one that there is.", this::beginInPlace);
        sentences.test("Returns the estimate of its plan.", this::beginAnswers);
    }

    private void beginInPlace() {
        PostingPlanner planner = Samples.one(Samples.with(0, 1, 20, 1, 39, 1), ANY, 0, false, 0);
        checks.throwsState("next() before begin()", planner::next);
        planner.begin();
        checks.same("the first run", Checks.rest(planner), "0/1 20/2 39/3 -1/3");
        planner.begin();
        checks.same("readings() of a run in place of one that is over", planner.readings(), 0);
        checks.same("a run in place of one that is over", planner.next(), 0);
        planner.next();
        planner.begin();
        checks.same("readings() of a run in place of one amid", planner.readings(), 0);
        checks.same("a run in place of one amid", Checks.rest(planner), "0/1 20/2 39/3 -1/3");
        planner.begin();
        planner.put(0, 0);
        planner.begin();
        checks.same("a run in place of one of other documents", Checks.rest(planner), "20/1 39/2 -1/2");
        planner.ask(ALL, 0);
        planner.begin();
        checks.same("a run in place of one of another question", Checks.rest(planner), "0/0 20/0 39/0 -1/0");
    }

    private void beginAnswers() {
        checks.same("begin() of a new object", new PostingPlanner().begin(), 0);
        checks.same("begin() of ALWAYS of all forty", Samples.forty(0).begin(), 40);
        checks.same("begin() of NEVER of all forty", Samples.asked(Samples.forty(0), ANY, 0, "").begin(), 0);
        checks.same("begin() of ALL", Samples.asked(Samples.ten(), ALL, 0, "31").begin(), 2);
        checks.same("begin() of ANY", Samples.asked(Samples.ten(), ANY, 0, "31").begin(), 6);
        checks.same("begin() of ANY, at most the documents", Samples.asked(Samples.ten(), ANY, 0, "77").begin(), 10);
        checks.same("begin() of SOME", Samples.asked(Samples.ten(), SOME, 2, "310").begin(), 3);
        PostingPlanner planner = Samples.asked(Samples.ten(), ALL, 0, "31");
        planner.begin();
        planner.drop(0);
        checks.same("begin() again, a document less", planner.begin(), 1);
    }

    private void leap(Sentences sentences) {
        sentences.in(20);
        sentences.test("`int leap(int document) throws IndexOutOfBoundsException, IllegalStateException`: Returns the "
                + "next document of the run that is a told one or behind it, and behind those that the run gave.",
                this::leapNext);
        sentences.test("- `document`: 0 to 39: the told one", this::leapDocuments);
        sentences.test("Returns the document; NONE if there is none, or was none before.", this::leapNone);
        sentences.test("Throws `IndexOutOfBoundsException` if there is no such document", this::leapNoDocument);
        sentences.test("Throws `IllegalStateException` if there is no run", this::leapNoRun);
    }

    private void leapNext() {
        PostingPlanner planner = Samples.one(Samples.with(3, 1, 4, 1, 5, 2, 6, 1, 39, 1), ANY, 0, false, 0);
        int[][] firsts = {{0, 3}, {2, 3}, {3, 3}, {4, 4}, {5, 6}, {6, 6}, {7, 39}, {38, 39}, {39, 39}};
        for (int[] leap : firsts) {
            planner.begin();
            checks.same("leap(" + leap[0] + ") at first", planner.leap(leap[0]), leap[1]);
        }
        int[][] seconds = {{0, 4}, {3, 4}, {4, 4}, {5, 6}, {6, 6}, {7, 39}, {39, 39}};
        for (int[] leap : seconds) {
            planner.begin();
            planner.leap(3);
            checks.same("leap(" + leap[0] + ") when 3 was given", planner.leap(leap[0]), leap[1]);
        }
    }

    private void leapDocuments() {
        PostingPlanner planner = Samples.forty(0);
        for (int document : new int[] {0, 1, 38, 39}) {
            planner.begin();
            checks.same("leap(" + document + ")", planner.leap(document), document);
        }
        planner.begin();
        for (int none : Samples.NO_DOCUMENTS) {
            checks.throwsIndex("leap(" + none + ")", () -> planner.leap(none));
        }
        checks.same("next() then", planner.next(), 0);
    }

    private void leapNone() {
        PostingPlanner planner = Samples.with(0, 0, 5, 0);
        planner.begin();
        checks.same("leap(5)", planner.leap(5), 5);
        checks.same("leap(0), the last one given", planner.leap(0), NONE);
        planner.begin();
        checks.same("leap(6), behind the last one", planner.leap(6), NONE);
        checks.same("leap(0), none before", planner.leap(0), NONE);
        checks.same("leap(39), none before", planner.leap(39), NONE);
        planner.put(39, 0);
        planner.begin();
        checks.same("leap(39)", planner.leap(39), 39);
        checks.same("leap(39) again", planner.leap(39), NONE);
        PostingPlanner fresh = new PostingPlanner();
        fresh.begin();
        checks.same("leap(0) without documents", fresh.leap(0), NONE);
        checks.same("NONE", NONE, -1);
    }

    private void leapNoDocument() {
        for (int none : Samples.NO_DOCUMENTS) {
            checks.refusedIndex("leap(" + none + ")", p -> p.leap(none), Samples.all());
        }
    }

    private void leapNoRun() {
        for (int document : new int[] {0, 1, 38, 39}) {
            checks.refusedState("leap(" + document + ")", p -> p.leap(document), Samples.fresh(), Samples.idle());
        }
    }

    private void next(Sentences sentences) {
        sentences.in(21);
        sentences.test("`int next() throws IllegalStateException`: Returns the next document of the run: that of leap() "
                + "of the document 0.", this::nextAsLeap);
        sentences.test("Returns the document; NONE if there is none.", this::nextNone);
        sentences.test("Throws `IllegalStateException` if there is no run",
                () -> checks.refusedState("next()", PostingPlanner::next, Samples.fresh(), Samples.idle()));
    }

    private void nextAsLeap() {
        PostingPlanner one = Samples.one(Samples.with(0, 1, 1, 0, 2, 1, 20, 3, 38, 0, 39, 1), ALL, 0, false, 0, -2);
        PostingPlanner other = Samples.one(Samples.with(0, 1, 1, 0, 2, 1, 20, 3, 38, 0, 39, 1), ALL, 0, false, 0, -2);
        one.begin();
        other.begin();
        int[] due = {0, 2, 39, NONE, NONE};
        for (int document : due) {
            checks.same("next()", one.next(), document);
            checks.same("leap(0)", other.leap(0), document);
            checks.same("readings() after next(), and after leap(0)", one.readings(), other.readings());
        }
    }

    private void nextNone() {
        PostingPlanner planner = Samples.with(39, 0);
        planner.begin();
        checks.same("next()", planner.next(), 39);
        checks.same("next() after 39", planner.next(), NONE);
        checks.same("next() after NONE", planner.next(), NONE);
        planner.begin();
        checks.same("next() after begin()", planner.next(), 39);
        PostingPlanner fresh = new PostingPlanner();
        fresh.begin();
        checks.same("next() without documents", fresh.next(), NONE);
        PostingPlanner never = Samples.asked(Samples.forty(255), ANY, 0, "");
        never.begin();
        checks.same("next() of NEVER", never.next(), NONE);
    }

    private void readings(Sentences sentences) {
        sentences.in(22);
        sentences.test("`int readings() throws IllegalStateException`: Returns how many readings the run has made.",
                this::readingsOfTheRun);
        sentences.test("Returns how many.", this::readingsNoneToMost);
        sentences.test("Throws `IllegalStateException` if there is no run",
                () -> checks.refusedState("readings()", PostingPlanner::readings, Samples.fresh(), Samples.idle()));
    }

    private void readingsOfTheRun() {
        PostingPlanner planner = Samples.one(Samples.with(0, 1, 39, 1), ANY, 0, false, 0, 1);
        planner.begin();
        checks.same("readings() at first", planner.readings(), 0);
        planner.next();
        checks.same("readings() after one document", planner.readings(), 2);
        checks.same("readings() again", planner.readings(), 2);
        planner.hits();
        planner.matches(0);
        planner.count(0);
        planner.estimate();
        planner.literalAt(0, 1);
        planner.ask(ALL, 0);
        checks.throwsIndex("leap(40)", () -> planner.leap(40));
        checks.same("readings() after calls that are not of the run", planner.readings(), 2);
        planner.next();
        checks.same("readings() after both documents", planner.readings(), 3);
        planner.next();
        checks.same("readings() after NONE", planner.readings(), 3);
        planner.begin();
        checks.same("readings() of a new run", planner.readings(), 0);
    }

    private void readingsNoneToMost() {
        PostingPlanner fresh = new PostingPlanner();
        fresh.begin();
        fresh.next();
        checks.same("readings() of ALWAYS", fresh.readings(), 0);
        PostingPlanner planner = Samples.forty(128);
        planner.ask(ANY, 0);
        for (int clause = 0; clause < 5; clause++) {
            Checks.clause(planner, SOME, 2, false, -8, -8, -8, -8, -8, -8);
        }
        planner.begin();
        checks.same("next(), when each literal passes all forty documents", planner.next(), NONE);
        checks.same("readings() of thirty literals that pass all forty documents, and the end", planner.readings(),
                30 * 41);
    }
}
