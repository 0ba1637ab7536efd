/** Promises 11 to 18: the plan, by its five steps, its estimates and its order. */
public final class PlanTest {
    private static final Checks CHECKS = new Checks("PlanTest");
    private static final int ALL = PostingPlanner.ALL;
    private static final int ANY = PostingPlanner.ANY;
    private static final int SOME = PostingPlanner.SOME;
    private static final int ALWAYS = PostingPlanner.ALWAYS;
    private static final int NEVER = PostingPlanner.NEVER;

    public static void main(String[] args) {
        negation();
        someBecomes();
        literalsOnce();
        clausesGoOut();
        questionOfSome();
        estimates();
        order();
        planKind();
        planNeed();
        planSize();
        estimate();
        clauseAt();
        kindAt();
        estimateAt();
        literalAt();
        planIsMadeNow();
        CHECKS.end();
    }

    /** The plan of a question ALL of one clause. */
    private static String planOf(int kind, int need, boolean isNegated, int... literals) {
        PostingPlanner planner = Samples.ten();
        Checks.clause(planner, kind, need, isNegated, literals);
        return Checks.plan(planner);
    }

    private static void negation() {
        CHECKS.topic("step 1");
        CHECKS.same("not ALL", planOf(ALL, 0, true, 0, -2, 4), "ALL/0~10[0:ANY~10(-0,1,-4)]");
        CHECKS.same("not ANY", planOf(ANY, 0, true, 0, -2, 4), "ALL/0~2[0:ALL~2(1,-4,-0)]");
        CHECKS.same("not SOME 2 of 4", planOf(SOME, 2, true, 0, 1, 2, -4), "ALL/0~9[0:SOME~9(-0,-1,-2,3)]");
        CHECKS.same("not SOME 3 of 4", planOf(SOME, 3, true, 0, 1, 2, -4), "ALL/0~10[0:SOME~10(-0,-1,-2,3)]");
        CHECKS.same("not SOME 4 of 4", planOf(SOME, 4, true, 0, 1, 2, -4), "ALL/0~10[0:ANY~10(-0,-1,-2,3)]");
        CHECKS.same("not SOME 1 of 4", planOf(SOME, 1, true, 0, 1, 2, -4), "ALL/0~4[0:ALL~4(3,-2,-1,-0)]");
        CHECKS.same("not SOME 5 of 4", planOf(SOME, 5, true, 0, 1, 2, -4), "ALWAYS/0~10[]");
        CHECKS.same("not SOME 1 of 1", planOf(SOME, 1, true, 0), "ALL/0~9[0:ANY~9(-0)]");
        CHECKS.same("not SOME 1 of none", planOf(SOME, 1, true), "ALWAYS/0~10[]");
    }

    private static void someBecomes() {
        CHECKS.topic("step 2");
        CHECKS.same("SOME 1 of 3", planOf(SOME, 1, false, 2, 1, 0), "ALL/0~6[0:ANY~6(2,1,0)]");
        CHECKS.same("SOME 2 of 3", planOf(SOME, 2, false, 2, 1, 0), "ALL/0~3[0:SOME~3(2,1,0)]");
        CHECKS.same("SOME 3 of 3", planOf(SOME, 3, false, 2, 1, 0), "ALL/0~1[0:ALL~1(0,1,2)]");
        CHECKS.same("SOME 4 of 3", planOf(SOME, 4, false, 2, 1, 0), "NEVER/0~0[]");
        CHECKS.same("SOME 1 of 1", planOf(SOME, 1, false, 2), "ALL/0~3[0:ANY~3(2)]");
        CHECKS.same("SOME 1 of none", planOf(SOME, 1, false), "NEVER/0~0[]");
        CHECKS.same("SOME 6 of 6", planOf(SOME, 6, false, 5, 4, 3, 2, 1, 0), "ALL/0~1[0:ALL~1(0,1,2,3,4,5)]");
        CHECKS.same("SOME 2 of 2, the same", planOf(SOME, 2, false, 2, 2), "ALL/0~3[0:ALL~3(2)]");
        CHECKS.same("SOME 2 of 2, contraries", planOf(SOME, 2, false, 2, -3), "NEVER/0~0[]");
        CHECKS.same("SOME 1 of 2, contraries", planOf(SOME, 1, false, 2, -3), "ALWAYS/0~10[]");
        CHECKS.same("SOME 1 of 2, the same", planOf(SOME, 1, false, 2, 2), "ALL/0~3[0:ANY~3(2)]");
    }

    private static void literalsOnce() {
        CHECKS.topic("step 3");
        CHECKS.same("ALL, the same", planOf(ALL, 0, false, 3, 3, 1, 3, 1), "ALL/0~2[0:ALL~2(1,3)]");
        CHECKS.same("ANY, the same", planOf(ANY, 0, false, 3, -1, 3, 1, -1), "ALL/0~10[0:ANY~10(3,-0,1)]");
        CHECKS.same("ANY, the first one stays", planOf(ANY, 0, false, 1, 0, 1), "ALL/0~3[0:ANY~3(1,0)]");
        CHECKS.same("SOME, the same", planOf(SOME, 2, false, 3, 3, 1, 3), "ALL/0~7[0:SOME~7(3,3,1,3)]");
        CHECKS.same("SOME, contraries", planOf(SOME, 2, false, 3, -4, 1), "ALL/0~6[0:SOME~6(3,-3,1)]");
        CHECKS.same("ALL, contraries", planOf(ALL, 0, false, 3, 1, -4), "NEVER/0~0[]");
        CHECKS.same("ALL, contraries the other way", planOf(ALL, 0, false, -4, 1, 3), "NEVER/0~0[]");
        CHECKS.same("ANY, contraries", planOf(ANY, 0, false, 3, 1, -4), "ALWAYS/0~10[]");
        CHECKS.same("not ALL, contraries", planOf(ALL, 0, true, 3, 1, -4), "ALWAYS/0~10[]");
        CHECKS.same("not ANY, contraries", planOf(ANY, 0, true, 3, 1, -4), "NEVER/0~0[]");
        CHECKS.same("ALL without literals", planOf(ALL, 0, false), "ALWAYS/0~10[]");
        CHECKS.same("ANY without literals", planOf(ANY, 0, false), "NEVER/0~0[]");
        CHECKS.same("not ALL without literals", planOf(ALL, 0, true), "NEVER/0~0[]");
        CHECKS.same("not ANY without literals", planOf(ANY, 0, true), "ALWAYS/0~10[]");
    }

    private static PostingPlanner asked(int kind, int need, String clauses) {
        return Samples.asked(Samples.ten(), kind, need, clauses);
    }

    private static String planOfClauses(int kind, int need, String clauses) {
        return Checks.plan(asked(kind, need, clauses));
    }

    private static void clausesGoOut() {
        CHECKS.topic("step 4");
        CHECKS.same("ALL of A", planOfClauses(ALL, 0, "A3A1"), "ALL/0~2[3:ANY~2(1) 1:ANY~4(3)]");
        CHECKS.same("ALL of N", planOfClauses(ALL, 0, "31N2"), "NEVER/0~0[]");
        CHECKS.same("ALL of A and N", planOfClauses(ALL, 0, "AN"), "NEVER/0~0[]");
        CHECKS.same("ALL of A alone", planOfClauses(ALL, 0, "AAAAA"), "ALWAYS/0~10[]");
        CHECKS.same("ANY of A", planOfClauses(ANY, 0, "31A2"), "ALWAYS/0~10[]");
        CHECKS.same("ANY of N", planOfClauses(ANY, 0, "3N1N"), "ANY/0~6[0:ANY~4(3) 2:ANY~2(1)]");
        CHECKS.same("ANY of A and N", planOfClauses(ANY, 0, "NA"), "ALWAYS/0~10[]");
        CHECKS.same("ANY of N alone", planOfClauses(ANY, 0, "NNNNN"), "NEVER/0~0[]");
        CHECKS.same("SOME 3 with an A", planOfClauses(SOME, 3, "3A210"), "SOME/2~5[0:ANY~4(3) 2:ANY~3(2) "
                + "3:ANY~2(1) 4:ANY~1(0)]");
        CHECKS.same("SOME 2 with an N", planOfClauses(SOME, 2, "3N21"), "SOME/2~4[0:ANY~4(3) 2:ANY~3(2) "
                + "3:ANY~2(1)]");
    }

    private static void questionOfSome() {
        CHECKS.topic("step 5");
        CHECKS.same("SOME 1", planOfClauses(SOME, 1, "32"), "ANY/0~7[0:ANY~4(3) 1:ANY~3(2)]");
        CHECKS.same("SOME 2 of 2", planOfClauses(SOME, 2, "32"), "ALL/0~3[1:ANY~3(2) 0:ANY~4(3)]");
        CHECKS.same("SOME 3 of 2", planOfClauses(SOME, 3, "32"), "NEVER/0~0[]");
        CHECKS.same("SOME 1 of 1", planOfClauses(SOME, 1, "3"), "ANY/0~4[0:ANY~4(3)]");
        CHECKS.same("SOME 1 of none", planOfClauses(SOME, 1, ""), "NEVER/0~0[]");
        CHECKS.same("SOME 1 with an A", planOfClauses(SOME, 1, "3A"), "ALWAYS/0~10[]");
        CHECKS.same("SOME 2 with an A", planOfClauses(SOME, 2, "3A"), "ANY/0~4[0:ANY~4(3)]");
        CHECKS.same("SOME 2 with three A", planOfClauses(SOME, 2, "AAA"), "ALWAYS/0~10[]");
        CHECKS.same("SOME 3 with an A, of 2", planOfClauses(SOME, 3, "3A2"), "ALL/0~3[2:ANY~3(2) 0:ANY~4(3)]");
        CHECKS.same("SOME 3 with an A, of 3", planOfClauses(SOME, 3, "3A21"),
                "SOME/2~4[0:ANY~4(3) 2:ANY~3(2) 3:ANY~2(1)]");
        CHECKS.same("SOME 2 with an A and an N", planOfClauses(SOME, 2, "NA21"), "ANY/0~5[2:ANY~3(2) 3:ANY~2(1)]");
        CHECKS.same("SOME 2 with an N, of 1", planOfClauses(SOME, 2, "N2"), "NEVER/0~0[]");
        CHECKS.same("SOME 5 of 5", planOfClauses(SOME, 5, "43210"), "ALL/0~1[4:ANY~1(0) 3:ANY~2(1) 2:ANY~3(2) "
                + "1:ANY~4(3) 0:ANY~5(4)]");
        CHECKS.same("SOME 2, the same clauses count each", planOfClauses(SOME, 2, "333"),
                "SOME/2~6[0:ANY~4(3) 1:ANY~4(3) 2:ANY~4(3)]");
    }

    private static void estimates() {
        CHECKS.topic("estimates");
        CHECKS.same("ANY, at most the documents", planOf(ANY, 0, false, 7, 6), "ALL/0~10[0:ANY~10(7,6)]");
        CHECKS.same("SOME, rounded down", planOf(SOME, 2, false, 0, 1, 1), "ALL/0~2[0:SOME~2(0,1,1)]");
        CHECKS.same("SOME, at most the documents", planOf(SOME, 2, false, 7, 6, 5), "ALL/0~10[0:SOME~10(7,6,5)]");
        CHECKS.same("SOME 3", planOf(SOME, 3, false, 7, 6, 5, 4), "ALL/0~8[0:SOME~8(7,6,5,4)]");
        PostingPlanner none = new PostingPlanner();
        Checks.clause(none, SOME, 2, false, 0, 1, -3);
        Checks.clause(none, ANY, 0, false, -1);
        CHECKS.same("without documents", Checks.plan(none), "ALL/0~0[0:SOME~0(0,1,-2) 1:ANY~0(-0)]");
    }

    private static void order() {
        CHECKS.topic("order");
        PostingPlanner planner = new PostingPlanner();
        planner.put(1, 1);
        planner.put(2, 2);
        planner.put(3, 4);
        planner.put(4, 8);
        Checks.clause(planner, ALL, 0, false, 3, -3, 1, 0, 5, -5);
        CHECKS.same("an ALL, by estimates, then words", Checks.plan(planner), "ALL/0~0[0:ALL~0(5,0,1,3,-2,-4)]");
        planner.ask(ALL, 0);
        Checks.clause(planner, ANY, 0, false, 2);
        Checks.clause(planner, ALL, 0, false, -4, 0);
        Checks.clause(planner, ALL, 0, false, 5, 4);
        Checks.clause(planner, ANY, 0, false, 3);
        Checks.clause(planner, SOME, 2, false, 5, 6, 7);
        CHECKS.same("an ALL, by estimates, then numbers", Checks.plan(planner),
                "ALL/0~0[2:ALL~0(4,5) 4:SOME~0(5,6,7) 0:ANY~1(2) 1:ALL~1(0,-3) 3:ANY~1(3)]");
        planner.ask(ANY, 0);
        Checks.clause(planner, ANY, 0, false, 3, 0, -6, 2);
        Checks.clause(planner, SOME, 2, false, 4, 0, 3);
        CHECKS.same("others stand as they were told", Checks.plan(planner),
                "ANY/0~4[0:ANY~4(3,0,-5,2) 1:SOME~1(4,0,3)]");
        PostingPlanner two = new PostingPlanner();
        two.put(0, 1);
        two.put(39, 2);
        Checks.clause(two, ALL, 0, false, 1, -1);
        Checks.clause(two, ALL, 0, false, -2, 0);
        CHECKS.same("a lesser word comes first, also negated", Checks.plan(two),
                "ALL/0~1[0:ALL~1(-0,1) 1:ALL~1(0,-1)]");
    }

    private static void planKind() {
        CHECKS.promise(11, "planKind");
        CHECKS.same("of ALL", asked(ALL, 0, "12").planKind(), ALL);
        CHECKS.same("of ANY", asked(ANY, 0, "12").planKind(), ANY);
        CHECKS.same("of SOME", asked(SOME, 2, "123").planKind(), SOME);
        CHECKS.same("of ALWAYS", asked(ANY, 0, "1A").planKind(), ALWAYS);
        CHECKS.same("of NEVER", asked(ALL, 0, "1N").planKind(), NEVER);
    }

    private static void planNeed() {
        CHECKS.promise(12, "planNeed");
        CHECKS.same("of SOME 2 of 3", asked(SOME, 2, "123").planNeed(), 2);
        CHECKS.same("of SOME 4 of 5", asked(SOME, 4, "12345").planNeed(), 4);
        CHECKS.same("of SOME 3 of 4 with an A", asked(SOME, 3, "A123").planNeed(), 2);
        CHECKS.same("of SOME 2 of 2", asked(SOME, 2, "12").planNeed(), 0);
        CHECKS.same("of SOME 1 of 2", asked(SOME, 1, "12").planNeed(), 0);
        CHECKS.same("of SOME 3 of 2", asked(SOME, 3, "12").planNeed(), 0);
        CHECKS.same("of SOME 1 with an A", asked(SOME, 1, "A12").planNeed(), 0);
        CHECKS.same("of ALL", asked(ALL, 0, "12").planNeed(), 0);
        CHECKS.same("of ANY", asked(ANY, 0, "12").planNeed(), 0);
    }

    private static void planSize() {
        CHECKS.promise(13, "planSize");
        CHECKS.same("of 5", asked(ANY, 0, "11111").planSize(), 5);
        CHECKS.same("of 5, with A and N", asked(SOME, 3, "1A2N3").planSize(), 3);
        CHECKS.same("of ALWAYS", asked(ANY, 0, "12A3").planSize(), 0);
        CHECKS.same("of NEVER", asked(ALL, 0, "12N3").planSize(), 0);
        CHECKS.same("of SOME without enough", asked(SOME, 4, "123").planSize(), 0);
        CHECKS.same("of none", asked(ALL, 0, "").planSize(), 0);
    }

    private static void estimate() {
        CHECKS.promise(14, "estimate");
        CHECKS.same("of ALL", asked(ALL, 0, "426").estimate(), 3);
        CHECKS.same("of ANY", asked(ANY, 0, "42").estimate(), 8);
        CHECKS.same("of ANY, at most the documents", asked(ANY, 0, "46").estimate(), 10);
        CHECKS.same("of SOME, rounded down", asked(SOME, 2, "132").estimate(), 4);
        CHECKS.same("of SOME, at most the documents", asked(SOME, 2, "777").estimate(), 10);
        CHECKS.same("of ALWAYS", asked(ALL, 0, "A").estimate(), 10);
        CHECKS.same("of NEVER", asked(ALL, 0, "N").estimate(), 0);
    }

    /** The calls of a place throw before the first and behind the last one. */
    private static void placesThrow(PostingPlanner planner, int size) {
        for (int place : new int[] {-1, size, 5, Integer.MIN_VALUE, Integer.MAX_VALUE}) {
            CHECKS.throwsArgument("clauseAt(" + place + ")", () -> planner.clauseAt(place));
            CHECKS.throwsArgument("kindAt(" + place + ")", () -> planner.kindAt(place));
            CHECKS.throwsArgument("estimateAt(" + place + ")", () -> planner.estimateAt(place));
            CHECKS.throwsArgument("literalAt(" + place + ", 0)", () -> planner.literalAt(place, 0));
        }
    }

    private static void clauseAt() {
        CHECKS.promise(15, "clauseAt");
        PostingPlanner planner = asked(ALL, 0, "5A21");
        CHECKS.same("clauseAt(0)", planner.clauseAt(0), 3);
        CHECKS.same("clauseAt(1)", planner.clauseAt(1), 2);
        CHECKS.same("clauseAt(2)", planner.clauseAt(2), 0);
        placesThrow(planner, 3);
        placesThrow(asked(ALL, 0, "11111"), 5);
        placesThrow(asked(ALL, 0, "123N"), 0);
        placesThrow(asked(ANY, 0, "123A"), 0);
        placesThrow(asked(SOME, 5, "123"), 0);
        placesThrow(new PostingPlanner(), 0);
    }

    private static void kindAt() {
        CHECKS.promise(16, "kindAt");
        PostingPlanner planner = Samples.ten();
        planner.ask(ANY, 0);
        Checks.clause(planner, ALL, 0, false, 1, 2);
        Checks.clause(planner, ALL, 0, true, 1, 2);
        Checks.clause(planner, SOME, 2, false, 1, 2, 3);
        Checks.clause(planner, SOME, 2, false, 1, 2);
        Checks.clause(planner, SOME, 2, true, 1, 2);
        CHECKS.same("kindAt(0)", planner.kindAt(0), ALL);
        CHECKS.same("kindAt(1)", planner.kindAt(1), ANY);
        CHECKS.same("kindAt(2)", planner.kindAt(2), SOME);
        CHECKS.same("kindAt(3)", planner.kindAt(3), ALL);
        CHECKS.same("kindAt(4)", planner.kindAt(4), ANY);
    }

    private static void estimateAt() {
        CHECKS.promise(17, "estimateAt");
        PostingPlanner planner = Samples.ten();
        planner.ask(ANY, 0);
        Checks.clause(planner, ALL, 0, false, 3, 1);
        Checks.clause(planner, ANY, 0, false, 3, 1);
        Checks.clause(planner, SOME, 2, false, 3, 1, 2);
        Checks.clause(planner, ANY, 0, false, -1, 1);
        CHECKS.same("estimateAt(0)", planner.estimateAt(0), 2);
        CHECKS.same("estimateAt(1)", planner.estimateAt(1), 6);
        CHECKS.same("estimateAt(2)", planner.estimateAt(2), 4);
        CHECKS.same("estimateAt(3)", planner.estimateAt(3), 10);
    }

    private static void literalAt() {
        CHECKS.promise(18, "literalAt");
        PostingPlanner planner = Samples.ten();
        planner.ask(ALL, 0);
        Checks.clause(planner, ANY, 0, false, 7, -8 + 1, 7, 0, -1 - 3);
        Checks.clause(planner, ALL, 0, false, 6, -2, 2);
        CHECKS.same("literalAt(0, 0)", planner.literalAt(0, 0), 4);
        CHECKS.same("literalAt(0, 1)", planner.literalAt(0, 1), 12);
        CHECKS.same("literalAt(0, 2)", planner.literalAt(0, 2), 3);
        CHECKS.same("literalAt(1, 0)", planner.literalAt(1, 0), 14);
        CHECKS.same("literalAt(1, 1)", planner.literalAt(1, 1), 13);
        CHECKS.same("literalAt(1, 2)", planner.literalAt(1, 2), 0);
        CHECKS.same("literalAt(1, 3)", planner.literalAt(1, 3), 7);
        for (int index : new int[] {-1, 4, 6, Integer.MIN_VALUE, Integer.MAX_VALUE}) {
            CHECKS.throwsArgument("literalAt(1, " + index + ")", () -> planner.literalAt(1, index));
        }
        CHECKS.throwsArgument("literalAt(0, 3)", () -> planner.literalAt(0, 3));
        CHECKS.throwsArgument("literalAt(2, 0)", () -> planner.literalAt(2, 0));
        CHECKS.throwsArgument("literalAt(-1, 9)", () -> planner.literalAt(-1, 9));
        PostingPlanner full = Samples.ten();
        Checks.clause(full, SOME, 2, false, 1, 1, 1, 1, 1, -8);
        CHECKS.same("literalAt(0, 5)", full.literalAt(0, 5), 15);
        CHECKS.throwsArgument("literalAt(0, 6)", () -> full.literalAt(0, 6));
        CHECKS.throwsArgument("of a new object", () -> new PostingPlanner().literalAt(0, 0));
    }

    private static void planIsMadeNow() {
        CHECKS.topic("the plan, as it would be made now");
        PostingPlanner planner = Samples.ten();
        Checks.clause(planner, ALL, 0, false, 1);
        Checks.clause(planner, ALL, 0, false, 2);
        CHECKS.same("at first", Checks.plan(planner), "ALL/0~2[0:ALL~2(1) 1:ALL~3(2)]");
        planner.begin();
        planner.put(20, 2);
        planner.put(21, 2);
        CHECKS.same("after puts", Checks.plan(planner), "ALL/0~3[1:ALL~3(2) 0:ALL~4(1)]");
        planner.drop(20);
        planner.drop(21);
        CHECKS.same("after drops", Checks.plan(planner), "ALL/0~2[0:ALL~2(1) 1:ALL~3(2)]");
        planner.literal(0, 1, true);
        CHECKS.same("after a literal", Checks.plan(planner), "NEVER/0~0[]");
        planner.ask(ANY, 0);
        CHECKS.same("after ask", Checks.plan(planner), "NEVER/0~0[]");
        planner.clause(ALL, 0, false);
        CHECKS.same("after a clause", Checks.plan(planner), "ALWAYS/0~10[]");
    }
}
