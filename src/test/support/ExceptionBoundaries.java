/** The sentences of the section on exceptions, the constants, and how many calls an object is used for. */
final class ExceptionBoundaries {
    private static final int ALL = Samples.ALL;
    private static final int ANY = Samples.ANY;
    private static final int SOME = Samples.SOME;
    private static final int LEAST = Samples.LEAST;
    private static final int MOST = Samples.MOST;

    private final Checks checks;

    ExceptionBoundaries(Checks checks) {
        this.checks = checks;
    }

    void test(Sentences sentences) {
        sentences.in("What it is", "promises 1 to 22 (What it is)");
        sentences.test("An object is used for at most 512 calls after it has been made;", this::lastCall);
        sentences.in("Exceptions", "promises 2 to 22 (Exceptions)");
        sentences.test("IndexOutOfBoundsException: there is no such document, word or clause.", this::index);
        sentences.test("IllegalArgumentException: another argument is out of range.", this::argument);
        sentences.test("IllegalStateException: as the method tells.", this::state);
        sentences.test("If several apply, the one that the throws clause names first is thrown.", this::several);
        sentences.test("A call that throws changes nothing.", this::changesNothing);
        constants(sentences);
        sentences.withoutPromise("Ahead of the calls `put`, `drop`, `documents`, `count` the interface says: ---- "
                + "documents.");
        sentences.withoutPromise("Ahead of the calls `ask`, `clause`, `literal`, `matches`, `hits` the interface says: "
                + "---- the question.");
        sentences.withoutPromise("Ahead of the calls `planKind`, `planNeed`, `planSize`, `estimate`, `clauseAt`, "
                + "`kindAt`, `estimateAt`, `literalAt` the interface says:");
        sentences.test("---- the plan, as it would be made now.", this::planAsOfNow);
        sentences.withoutPromise("Ahead of the calls `begin`, `leap`, `next`, `readings` the interface says: ---- runs.");
    }

    /** 40 calls of put, 1 + 30 of literals with 5 of clauses, 1 of begin; then refused and asking ones up to 510. */
    private void lastCall() {
        PostingPlanner planner = Samples.forty(255);
        planner.ask(ANY, 0);
        for (int clause = 0; clause < 5; clause++) {
            Checks.clause(planner, ANY, 0, false, 0, 1, 2, 3, 4, 5);
        }
        int calls = 40 + 1 + 5 + 30;
        for (; calls < 510; calls += 2) {
            checks.throwsArgument("call " + (calls + 1), () -> planner.put(0, 256));
            checks.same("call " + (calls + 2), planner.begin(), 40);
        }
        checks.same("call 511", planner.leap(39), 39);
        checks.same("call 512", planner.readings(), 30);
    }

    private void index() {
        PostingPlanner planner = Samples.busy().made.get();
        for (int none : Samples.NO_DOCUMENTS) {
            checks.throwsIndex("put(" + none + ", 0)", () -> planner.put(none, 0));
            checks.throwsIndex("drop(" + none + ")", () -> planner.drop(none));
            checks.throwsIndex("matches(" + none + ")", () -> planner.matches(none));
            checks.throwsIndex("leap(" + none + ")", () -> planner.leap(none));
        }
        for (int none : Samples.NO_WORDS) {
            checks.throwsIndex("count(" + none + ")", () -> planner.count(none));
            checks.throwsIndex("literal(0, " + none + ")", () -> planner.literal(0, none, false));
        }
        for (int none : new int[] {-1, 3, 5, LEAST, MOST}) {
            checks.throwsIndex("literal(" + none + ", 0)", () -> planner.literal(none, 0, false));
        }
    }

    private void argument() {
        PostingPlanner planner = Samples.busy().made.get();
        for (int wrong : new int[] {-1, 256, LEAST, MOST}) {
            checks.throwsArgument("put(0, " + wrong + ")", () -> planner.put(0, wrong));
            checks.throwsArgument("ask(" + wrong + ", 0)", () -> planner.ask(wrong, 0));
            checks.throwsArgument("ask(ALL, " + wrong + ")", () -> planner.ask(ALL, wrong));
            checks.throwsArgument("ask(SOME, " + wrong + ")", () -> planner.ask(SOME, wrong));
            checks.throwsArgument("clause(" + wrong + ", 0)", () -> planner.clause(wrong, 0, false));
            checks.throwsArgument("clause(ANY, " + wrong + ")", () -> planner.clause(ANY, wrong, false));
            checks.throwsArgument("clause(SOME, " + wrong + ")", () -> planner.clause(SOME, wrong, false));
            checks.throwsArgument("clauseAt(" + wrong + ")", () -> planner.clauseAt(wrong));
            checks.throwsArgument("kindAt(" + wrong + ")", () -> planner.kindAt(wrong));
            checks.throwsArgument("estimateAt(" + wrong + ")", () -> planner.estimateAt(wrong));
            checks.throwsArgument("literalAt(" + wrong + ", 0)", () -> planner.literalAt(wrong, 0));
            checks.throwsArgument("literalAt(0, " + wrong + ")", () -> planner.literalAt(0, wrong));
        }
    }

    private void state() {
        PostingPlanner full = Samples.full().made.get();
        checks.throwsState("a sixth clause", () -> full.clause(ALL, 0, false));
        checks.throwsState("a seventh literal of the first clause", () -> full.literal(0, 0, false));
        checks.throwsState("a seventh literal of the last clause", () -> full.literal(4, 7, true));
        PostingPlanner idle = Samples.idle().made.get();
        checks.throwsState("leap(0) without a run", () -> idle.leap(0));
        checks.throwsState("leap(39) without a run", () -> idle.leap(39));
        checks.throwsState("next() without a run", idle::next);
        checks.throwsState("readings() without a run", idle::readings);
    }

    private void several() {
        for (int document : Samples.NO_DOCUMENTS) {
            checks.throwsIndex("put(" + document + ", -1)", () -> new PostingPlanner().put(document, -1));
            checks.throwsIndex("put(" + document + ", 256)", () -> new PostingPlanner().put(document, 256));
            checks.throwsIndex("leap(" + document + ") without a run", () -> new PostingPlanner().leap(document));
        }
        PostingPlanner full = Samples.full().made.get();
        int[][] clauses = {{-1, 0}, {3, 0}, {ALL, -1}, {ALL, 1}, {ANY, 1}, {SOME, 0}, {SOME, 7}, {LEAST, MOST}};
        for (int[] clause : clauses) {
            checks.throwsArgument("a sixth clause(" + clause[0] + ", " + clause[1] + ")",
                    () -> full.clause(clause[0], clause[1], false));
        }
        for (int word : Samples.NO_WORDS) {
            checks.throwsIndex("a seventh literal(0, " + word + ")", () -> full.literal(0, word, false));
            checks.throwsIndex("a seventh literal(4, " + word + ")", () -> full.literal(4, word, true));
            checks.throwsIndex("literal(-1, " + word + ")", () -> full.literal(-1, word, false));
            checks.throwsIndex("literal(5, " + word + ")", () -> full.literal(5, word, false));
        }
    }

    private void changesNothing() {
        checks.refusedIndex("put(40, 256)", p -> p.put(40, 256), Samples.all());
        checks.refusedArgument("put(0, 256)", p -> p.put(0, 256), Samples.all());
        checks.refusedArgument("put(39, -1)", p -> p.put(39, -1), Samples.all());
        checks.refusedIndex("drop(40)", p -> p.drop(40), Samples.all());
        checks.refusedIndex("count(8)", p -> p.count(8), Samples.all());
        checks.refusedArgument("ask(ALL, 1)", p -> p.ask(ALL, 1), Samples.all());
        checks.refusedArgument("ask(SOME, 0)", p -> p.ask(SOME, 0), Samples.all());
        checks.refusedArgument("clause(SOME, 7)", p -> p.clause(SOME, 7, true), Samples.all());
        checks.refusedArgument("clause(3, 0)", p -> p.clause(3, 0, false), Samples.all());
        checks.refusedState("clause(ANY, 0)", p -> p.clause(ANY, 0, false), Samples.full());
        checks.refusedIndex("literal(0, 8)", p -> p.literal(0, 8, false), Samples.all());
        checks.refusedIndex("literal(5, 0)", p -> p.literal(5, 0, false), Samples.all());
        checks.refusedState("literal(4, 0)", p -> p.literal(4, 0, false), Samples.full());
        checks.refusedIndex("matches(40)", p -> p.matches(40), Samples.all());
        checks.refusedArgument("clauseAt(-1)", p -> p.clauseAt(-1), Samples.all());
        checks.refusedArgument("kindAt(-1)", p -> p.kindAt(-1), Samples.all());
        checks.refusedArgument("estimateAt(-1)", p -> p.estimateAt(-1), Samples.all());
        checks.refusedArgument("literalAt(0, 6)", p -> p.literalAt(0, 6), Samples.all());
        checks.refusedIndex("leap(40)", p -> p.leap(40), Samples.all());
        checks.refusedState("leap(39)", p -> p.leap(39), Samples.fresh(), Samples.idle());
        checks.refusedState("next()", PostingPlanner::next, Samples.fresh(), Samples.idle());
        checks.refusedState("readings()", PostingPlanner::readings, Samples.fresh(), Samples.idle());
    }

    private void constants(Sentences sentences) {
        sentences.test("The constants: `NONE = -1`: None.", () -> constant(PostingPlanner.NONE, -1));
        sentences.test("`ALL = 0`: A kind.", () -> constant(PostingPlanner.ALL, 0));
        sentences.test("`ANY = 1`: A kind.", () -> constant(PostingPlanner.ANY, 1));
        sentences.test("`SOME = 2`: A kind.", () -> constant(PostingPlanner.SOME, 2));
        sentences.test("`ALWAYS = 3`: A kind in plans.", () -> kindInPlans(PostingPlanner.ALWAYS, 3));
        sentences.test("`NEVER = 4`: A kind in plans.", () -> kindInPlans(PostingPlanner.NEVER, 4));
    }

    private void constant(int got, int due) {
        checks.same("the constant", got, due);
    }

    private void kindInPlans(int kind, int due) {
        constant(kind, due);
        PostingPlanner planner = Samples.asked(Samples.ten(), kind == 3 ? ALL : ANY, 0, "");
        checks.same("a plan's kind", planner.planKind(), due);
        checks.throwsArgument("ask of it", () -> planner.ask(kind, 0));
        checks.throwsArgument("clause of it", () -> planner.clause(kind, 0, false));
    }

    private void planAsOfNow() {
        PostingPlanner planner = Samples.asked(Samples.ten(), ALL, 0, "12");
        planner.begin();
        checks.same("the plan at first", Checks.plan(planner), "ALL/0~2[0:ANY~2(1) 1:ANY~3(2)]");
        planner.put(20, 2);
        planner.put(21, 2);
        checks.same("the plan after put", Checks.plan(planner), "ALL/0~3[1:ANY~3(2) 0:ANY~4(1)]");
        planner.drop(20);
        checks.same("the plan after drop", Checks.plan(planner), "ALL/0~3[0:ANY~3(1) 1:ANY~3(2)]");
        planner.literal(0, 0, false);
        checks.same("the plan after literal", Checks.plan(planner), "ALL/0~3[1:ANY~3(2) 0:ANY~4(1,0)]");
        planner.clause(ANY, 0, false);
        checks.same("the plan after clause", Checks.plan(planner), "NEVER/0~0[]");
        planner.ask(ALL, 0);
        checks.same("the plan after ask", Checks.plan(planner), "ALWAYS/0~11[]");
        smallerPlans();
    }

    /** Nothing of a plan made before comes back in one that has fewer parts, not even in the first call of it. */
    private void smallerPlans() {
        PostingPlanner planner = Samples.one(Samples.ten(), ALL, 0, false, 0, 1, 2, 3, 4, 5);
        checks.same("the last one of six literals", planner.literalAt(0, 5), 10);
        Samples.one(planner, ALL, 0, false, 7, 6);
        checks.same("then the first one of two", planner.literalAt(0, 0), 12);
        checks.throwsArgument("then the third one of two", () -> planner.literalAt(0, 2));
        Samples.asked(planner, ALL, 0, "01234");
        checks.same("the last one of five clauses", planner.clauseAt(4), 4);
        Samples.asked(planner, ALL, 0, "76");
        checks.same("then the first one of two", planner.clauseAt(0), 1);
        checks.throwsArgument("then the third one of two", () -> planner.clauseAt(2));
        Samples.one(planner, ALL, 0, false, 0, 1, 2, 3, 4, 5);
        checks.same("the run of six literals", Checks.wholeRun(planner), "1: 0/6 -1/7");
        Samples.one(planner, ALL, 0, false, 2, 1);
        checks.same("then the run of two", Checks.wholeRun(planner), "2: 0/2 1/4 -1/5");
    }
}
