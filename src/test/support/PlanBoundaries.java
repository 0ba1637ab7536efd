/** The sentences of the section on plans: the steps, the estimates and the order. */
final class PlanBoundaries {
    private static final int ALL = Samples.ALL;
    private static final int ANY = Samples.ANY;
    private static final int SOME = Samples.SOME;

    private final Checks checks;

    PlanBoundaries(Checks checks) {
        this.checks = checks;
    }

    void test(Sentences sentences) {
        sentences.in("Plans", "promises 11 to 19 (Plans)");
        stepsOfClauses(sentences);
        stepsOfTheQuestion(sentences);
        estimates(sentences);
        order(sentences);
    }

    private void planOfOne(String due, PostingPlanner planner, int kind, int need, boolean isNegated,
            int... literals) {
        Samples.one(planner, kind, need, isNegated, literals);
        StringBuilder what = new StringBuilder("the plan of ").append(isNegated ? "not " : "");
        what.append(new String[] {"ALL", "ANY", "SOME"}[kind]).append(' ').append(need).append(" of");
        for (int literal : literals) {
            what.append(' ').append(literal < 0 ? "-" : "").append(literal < 0 ? -literal - 1 : literal);
        }
        checks.same(what.toString(), Checks.plan(planner), due);
    }

    private void told(String due, int kind, int need, int... literals) {
        planOfOne(due, Samples.ten(), kind, need, false, literals);
    }

    private void negated(String due, int kind, int need, int... literals) {
        planOfOne(due, Samples.twenty(), kind, need, true, literals);
    }

    private void question(String due, int kind, int need, String clauses) {
        PostingPlanner planner = Samples.asked(Samples.ten(), kind, need, clauses);
        checks.same("the plan of a question of kind " + kind + ", need " + need + ", of " + clauses,
                Checks.plan(planner), due);
    }

    private void stepsOfClauses(Sentences sentences) {
        sentences.test("The plan of a question is made by these steps, for all clauses and then for the question:",
                this::clausesFirst);
        sentences.test("1. A clause that is negated is not negated any more, and its literals become the contrary;",
                this::contraries);
        sentences.test("ALL becomes ANY, ANY becomes ALL;", this::negatedAllAndAny);
        sentences.test("SOME with the need n, of k literals, has the need k - n + 1.", this::negatedSome);
        sentences.test("2. SOME becomes ALWAYS if its need is 0 or less,", this::someAlways);
        sentences.test("else NEVER if it is more than there are literals,", this::someNever);
        sentences.test("else ANY if it is 1,", this::someAny);
        sentences.test("else ALL if it is as many as there are literals.", this::someAll);
        sentences.test("3. In an ALL or an ANY a literal that is there more than once stays once, the first one.",
                this::literalsOnce);
        sentences.test("If a literal and its contrary are there, an ALL becomes NEVER, an ANY becomes ALWAYS.",
                this::contrariesTogether);
        sentences.test("Without literals an ALL becomes ALWAYS, an ANY becomes NEVER.", this::withoutLiterals);
    }

    private void clausesFirst() {
        PostingPlanner planner = Samples.ten();
        planner.ask(SOME, 3);
        Checks.clause(planner, SOME, 2, true, 1);
        Checks.clause(planner, SOME, 1, false, 2, -3);
        Checks.clause(planner, ANY, 0, true, 4, -5);
        Checks.clause(planner, SOME, 1, false, 3);
        checks.same("an ALWAYS by step 1, one by step 3, a NEVER, and one that is left of a need of 3",
                Checks.plan(planner), "ANY/0~4[3:ANY~4(3)]");
    }

    private void contraries() {
        negated("ALL/0~19[0:ANY~19(-0)]", ALL, 0, 0);
        negated("ALL/0~1[0:ANY~1(0)]", ALL, 0, -1);
        negated("ALL/0~12[0:ANY~12(-7)]", ALL, 0, 7);
        negated("ALL/0~8[0:ANY~8(7)]", ALL, 0, -8);
        negated("ALL/0~2[0:ALL~2(1,3,5,-4,-2,-0)]", ANY, 0, 0, -2, 2, -4, 4, -6);
        told("ALL/0~1[0:ALL~1(0)]", ALL, 0, 0);
        told("ALL/0~9[0:ALL~9(-0)]", ALL, 0, -1);
        told("ALL/0~8[0:ALL~8(7)]", ALL, 0, 7);
        told("ALL/0~2[0:ALL~2(-7)]", ALL, 0, -8);
    }

    private void negatedAllAndAny() {
        negated("ALL/0~3[0:ANY~3(1,0)]", ALL, 0, -2, -1);
        negated("ALL/0~1[0:ALL~1(0,1)]", ANY, 0, -2, -1);
        negated("ALL/0~1[0:ALL~1(0)]", ANY, 0, -1);
        negated("NEVER/0~0[]", ALL, 0);
        negated("ALWAYS/0~20[]", ANY, 0);
        negated("ALL/0~20[0:ANY~20(0,1,2,3,4,5)]", ALL, 0, -1, -2, -3, -4, -5, -6);
        negated("ALL/0~1[0:ALL~1(0,1,2,3,4,5)]", ANY, 0, -6, -5, -4, -3, -2, -1);
    }

    private void negatedSome() {
        int[] six = {-1, -2, -3, -4, -5, -6};
        negated("ALL/0~1[0:ALL~1(0,1,2,3,4,5)]", SOME, 1, six);
        negated("ALL/0~4[0:SOME~4(0,1,2,3,4,5)]", SOME, 2, six);
        negated("ALL/0~5[0:SOME~5(0,1,2,3,4,5)]", SOME, 3, six);
        negated("ALL/0~7[0:SOME~7(0,1,2,3,4,5)]", SOME, 4, six);
        negated("ALL/0~10[0:SOME~10(0,1,2,3,4,5)]", SOME, 5, six);
        negated("ALL/0~20[0:ANY~20(0,1,2,3,4,5)]", SOME, 6, six);
        negated("ALL/0~1[0:ANY~1(0)]", SOME, 1, -1);
        negated("ALWAYS/0~20[]", SOME, 2, -1);
        negated("ALWAYS/0~20[]", SOME, 6, -1, -2, -3, -4, -5);
        negated("ALL/0~15[0:ANY~15(0,1,2,3,4)]", SOME, 5, -1, -2, -3, -4, -5);
        negated("ALWAYS/0~20[]", SOME, 1);
        negated("ALWAYS/0~20[]", SOME, 6);
    }

    private void someAlways() {
        negated("ALWAYS/0~20[]", SOME, 3, -1, -2);
        negated("ALWAYS/0~20[]", SOME, 4, -1, -2);
        negated("ALWAYS/0~20[]", SOME, 6, -1, -2);
        negated("ALL/0~3[0:ANY~3(0,1)]", SOME, 2, -1, -2);
        negated("ALWAYS/0~20[]", SOME, 1);
    }

    private void someNever() {
        told("NEVER/0~0[]", SOME, 1);
        told("NEVER/0~0[]", SOME, 6);
        told("NEVER/0~0[]", SOME, 2, 4);
        told("NEVER/0~0[]", SOME, 6, 0, 1, 2, 3, 4);
        told("ALL/0~1[0:ALL~1(0,1,2,3,4)]", SOME, 5, 0, 1, 2, 3, 4);
        told("ALL/0~1[0:ALL~1(0,1,2,3,4,5)]", SOME, 6, 0, 1, 2, 3, 4, 5);
        told("NEVER/0~0[]", SOME, 4, 0, 1, 0);
    }

    private void someAny() {
        told("ALL/0~5[0:ANY~5(4)]", SOME, 1, 4);
        told("ALL/0~3[0:ANY~3(1,0)]", SOME, 1, 1, 0);
        told("ALL/0~10[0:ANY~10(5,4,3,2,1,0)]", SOME, 1, 5, 4, 3, 2, 1, 0);
        told("ALL/0~3[0:SOME~3(2,1,0)]", SOME, 2, 2, 1, 0);
    }

    private void someAll() {
        told("ALL/0~1[0:ALL~1(0,1)]", SOME, 2, 1, 0);
        told("ALL/0~3[0:SOME~3(2,1,0)]", SOME, 2, 2, 1, 0);
        told("ALL/0~1[0:ALL~1(0,1,2)]", SOME, 3, 2, 1, 0);
        told("ALL/0~4[0:SOME~4(5,4,3,2,1,0)]", SOME, 5, 5, 4, 3, 2, 1, 0);
        told("ALL/0~1[0:ALL~1(0,1,2,3,4,5)]", SOME, 6, 5, 4, 3, 2, 1, 0);
        told("ALL/0~2[0:SOME~2(1,1,0)]", SOME, 2, 1, 1, 0);
    }

    private void literalsOnce() {
        told("ALL/0~4[0:ALL~4(3)]", ALL, 0, 3, 3, 3, 3, 3, 3);
        told("ALL/0~4[0:ANY~4(3)]", ANY, 0, 3, 3, 3, 3, 3, 3);
        told("ALL/0~2[0:ANY~2(-7)]", ANY, 0, -8, -8);
        told("ALL/0~1[0:ALL~1(0,1)]", ALL, 0, 1, 0, 1);
        told("ALL/0~3[0:ANY~3(1,0)]", ANY, 0, 1, 0, 1);
        told("ALL/0~3[0:ANY~3(0,1)]", ANY, 0, 0, 1, 1, 0);
        told("ALL/0~6[0:ANY~6(2,1,0)]", ANY, 0, 2, 1, 2, 0, 1, 0);
        told("ALL/0~6[0:SOME~6(3,3,3)]", SOME, 2, 3, 3, 3);
        told("ALL/0~4[0:ALL~4(3)]", SOME, 3, 3, 3, 3);
        told("ALL/0~4[0:ANY~4(3)]", SOME, 1, 3, 3, 3);
        negated("ALL/0~4[0:ANY~4(3)]", ALL, 0, -4, -4);
    }

    private void contrariesTogether() {
        for (int word : new int[] {0, 7}) {
            told("NEVER/0~0[]", ALL, 0, word, -word - 1);
            told("NEVER/0~0[]", ALL, 0, -word - 1, word);
            told("NEVER/0~0[]", ALL, 0, word, 2, 3, 4, 5, -word - 1);
            told("ALWAYS/0~10[]", ANY, 0, word, -word - 1);
            told("ALWAYS/0~10[]", ANY, 0, -word - 1, 2, 3, 4, 5, word);
            told("NEVER/0~0[]", SOME, 2, word, -word - 1);
            told("ALWAYS/0~10[]", SOME, 1, word, -word - 1);
            negated("ALWAYS/0~20[]", ALL, 0, word, -word - 1);
            negated("NEVER/0~0[]", ANY, 0, word, -word - 1);
        }
        told("ALL/0~6[0:SOME~6(0,-0,1)]", SOME, 2, 0, -1, 1);
        told("ALL/0~2[0:ALL~2(1,-0)]", ALL, 0, -1, 1);
        told("ALL/0~9[0:ANY~9(-6,5)]", ANY, 0, -7, 5);
    }

    private void withoutLiterals() {
        told("ALWAYS/0~10[]", ALL, 0);
        told("NEVER/0~0[]", ANY, 0);
        negated("NEVER/0~0[]", ALL, 0);
        negated("ALWAYS/0~20[]", ANY, 0);
        told("ALL/0~1[0:ALL~1(0)]", ALL, 0, 0);
        told("ALL/0~1[0:ANY~1(0)]", ANY, 0, 0);
    }

    private void stepsOfTheQuestion(Sentences sentences) {
        sentences.test("4. Clauses that are ALWAYS or NEVER go out of the question:", this::clausesGoOut);
        sentences.test("if it is ALL, one that is NEVER makes the plan NEVER;", this::neverInAll);
        sentences.test("if it is ANY, one that is ALWAYS makes the plan ALWAYS;", this::alwaysInAny);
        sentences.test("if it is SOME, each one that is ALWAYS makes its need 1 less.", this::alwaysInSome);
        sentences.test("5. With the clauses that are left, step 2 goes for a SOME question as for a clause, clauses in "
                + "place of literals;", this::someQuestion);
        sentences.test("then an ALL without clauses becomes ALWAYS, an ANY without clauses becomes NEVER.",
                this::withoutClauses);
    }

    private void clausesGoOut() {
        question("ALL/0~2[4:ANY~2(1)]", ALL, 0, "AAAA1");
        question("ALL/0~2[0:ANY~2(1)]", ALL, 0, "1AAAA");
        question("ALL/0~2[1:ANY~2(1) 3:ANY~4(3)]", ALL, 0, "A1A3A");
        question("ANY/0~2[4:ANY~2(1)]", ANY, 0, "NNNN1");
        question("ANY/0~6[1:ANY~4(3) 3:ANY~2(1)]", ANY, 0, "N3N1N");
        question("ANY/0~2[2:ANY~2(1)]", SOME, 3, "AN1AN");
        question("ANY/0~9[0:ANY~4(3) 1:ANY~2(1) 2:ANY~1(0) 3:ANY~1(0) 4:ANY~1(0)]", ANY, 0, "31000");
    }

    private void neverInAll() {
        question("NEVER/0~0[]", ALL, 0, "N");
        question("NEVER/0~0[]", ALL, 0, "N1234");
        question("NEVER/0~0[]", ALL, 0, "1234N");
        question("NEVER/0~0[]", ALL, 0, "ANA");
        question("ALL/0~2[1:ANY~2(1)]", ALL, 0, "A1A");
        question("ANY/0~2[1:ANY~2(1)]", ANY, 0, "N1N");
    }

    private void alwaysInAny() {
        question("ALWAYS/0~10[]", ANY, 0, "A");
        question("ALWAYS/0~10[]", ANY, 0, "A1234");
        question("ALWAYS/0~10[]", ANY, 0, "1234A");
        question("ALWAYS/0~10[]", ANY, 0, "NAN");
        question("ANY/0~2[1:ANY~2(1)]", ANY, 0, "N1N");
    }

    private void alwaysInSome() {
        question("SOME/2~3[1:ANY~1(0) 2:ANY~2(1) 3:ANY~3(2)]", SOME, 3, "A012");
        question("SOME/2~3[2:ANY~1(0) 3:ANY~2(1) 4:ANY~3(2)]", SOME, 4, "AA012");
        question("SOME/3~3[1:ANY~1(0) 2:ANY~2(1) 3:ANY~3(2) 4:ANY~4(3)]", SOME, 4, "A0123");
        question("ALL/0~1[0:ANY~1(0) 4:ANY~2(1)]", SOME, 5, "0AAA1");
        question("ALWAYS/0~10[]", SOME, 5, "AAAAA");
        question("ANY/0~1[4:ANY~1(0)]", SOME, 5, "AAAA0");
        question("NEVER/0~0[]", SOME, 5, "AAAAN");
        question("ALWAYS/0~10[]", SOME, 1, "AAAAA");
        question("SOME/2~3[1:ANY~1(0) 2:ANY~2(1) 3:ANY~3(2)]", SOME, 2, "N012N");
        question("ALL/0~1[0:ANY~1(0) 1:ANY~2(1)]", ALL, 0, "01AAA");
    }

    private void someQuestion() {
        question("ALWAYS/0~10[]", SOME, 1, "A");
        question("ALWAYS/0~10[]", SOME, 1, "AA0");
        question("ALWAYS/0~10[]", SOME, 2, "A0A");
        question("NEVER/0~0[]", SOME, 1, "");
        question("NEVER/0~0[]", SOME, 5, "");
        question("NEVER/0~0[]", SOME, 5, "0123");
        question("NEVER/0~0[]", SOME, 3, "01NNN");
        question("NEVER/0~0[]", SOME, 1, "NNNNN");
        question("ALL/0~1[3:ANY~1(0) 2:ANY~2(1) 1:ANY~3(2) 0:ANY~4(3)]", SOME, 4, "3210");
        question("SOME/4~3[0:ANY~5(4) 1:ANY~4(3) 2:ANY~3(2) 3:ANY~2(1) 4:ANY~1(0)]", SOME, 4, "43210");
        question("ALL/0~1[4:ANY~1(0) 3:ANY~2(1) 2:ANY~3(2) 1:ANY~4(3) 0:ANY~5(4)]", SOME, 5, "43210");
        question("ANY/0~5[0:ANY~5(4)]", SOME, 1, "4");
        question("ANY/0~9[0:ANY~5(4) 1:ANY~4(3)]", SOME, 1, "43");
        question("ALL/0~4[1:ANY~4(3) 0:ANY~5(4)]", SOME, 2, "43");
        question("SOME/2~6[0:ANY~5(4) 1:ANY~4(3) 2:ANY~3(2)]", SOME, 2, "432");
        question("ANY/0~5[1:ANY~5(4)]", SOME, 2, "A4N");
        question("SOME/2~4[0:ANY~4(3) 1:ANY~4(3) 2:ANY~1(0)]", SOME, 2, "330");
    }

    private void withoutClauses() {
        question("ALWAYS/0~10[]", ALL, 0, "");
        question("ALWAYS/0~10[]", ALL, 0, "AAAAA");
        question("NEVER/0~0[]", ANY, 0, "");
        question("NEVER/0~0[]", ANY, 0, "NNNNN");
        question("ALL/0~1[0:ANY~1(0)]", ALL, 0, "0");
        question("ANY/0~1[0:ANY~1(0)]", ANY, 0, "0");
    }

    private void estimates(Sentences sentences) {
        sentences.test("The estimate of a literal is how many documents that are there it is true of.",
                this::estimateOfLiteral);
        sentences.test("The estimate of an ALL is the least one of its literals or clauses;", this::estimateOfAll);
        sentences.test("that of an ANY their sum, but at most how many documents are there;", this::estimateOfAny);
        sentences.test("that of a SOME their sum, divided by its need, rounded down, but at most how many documents are "
                + "there;", this::estimateOfSome);
        sentences.test("that of ALWAYS how many documents are there;", this::estimateOfAlways);
        sentences.test("that of NEVER 0.", this::estimateOfNever);
    }

    private void estimateOfLiteral() {
        planOfOne("ALL/0~0[0:ALL~0(0)]", new PostingPlanner(), ALL, 0, false, 0);
        planOfOne("ALL/0~0[0:ALL~0(-7)]", new PostingPlanner(), ALL, 0, false, -8);
        planOfOne("ALL/0~40[0:ALL~40(7)]", Samples.forty(128), ALL, 0, false, 7);
        planOfOne("ALL/0~0[0:ALL~0(-7)]", Samples.forty(128), ALL, 0, false, -8);
        planOfOne("ALL/0~0[0:ALL~0(0)]", Samples.forty(254), ALL, 0, false, 0);
        planOfOne("ALL/0~40[0:ALL~40(-0)]", Samples.forty(254), ALL, 0, false, -1);
        PostingPlanner dropped = Samples.forty(254);
        dropped.drop(0);
        dropped.drop(39);
        dropped.put(20, 1);
        planOfOne("ALL/0~37[0:ALL~37(-0)]", dropped, ALL, 0, false, -1);
        planOfOne("ALL/0~1[0:ALL~1(0)]", dropped, ALL, 0, false, 0);
    }

    private void estimateOfAll() {
        told("ALL/0~3[0:ALL~3(2)]", ALL, 0, 2);
        told("ALL/0~1[0:ALL~1(0,1,2,3,4,5)]", ALL, 0, 0, 1, 2, 3, 4, 5);
        told("ALL/0~1[0:ALL~1(0,1,2,3,4,5)]", ALL, 0, 5, 4, 3, 2, 1, 0);
        told("ALL/0~8[0:ALL~8(7)]", ALL, 0, 7);
        question("ALL/0~1[0:ANY~1(0) 1:ANY~2(1) 2:ANY~3(2)]", ALL, 0, "012");
        question("ALL/0~1[2:ANY~1(0) 1:ANY~2(1) 0:ANY~3(2)]", ALL, 0, "210");
        planOfOne("ALL/0~40[0:ALL~40(0,7)]", Samples.forty(129), ALL, 0, false, 7, 0);
        PostingPlanner zero = Samples.ten();
        zero.drop(0);
        planOfOne("ALL/0~0[0:ALL~0(0,7)]", zero, ALL, 0, false, 7, 0);
    }

    private void estimateOfAny() {
        told("ALL/0~9[0:ANY~9(3,4)]", ANY, 0, 3, 4);
        told("ALL/0~10[0:ANY~10(3,5)]", ANY, 0, 3, 5);
        told("ALL/0~10[0:ANY~10(4,5)]", ANY, 0, 4, 5);
        told("ALL/0~10[0:ANY~10(7,6,5,4,3,2)]", ANY, 0, 7, 6, 5, 4, 3, 2);
        question("ANY/0~9[0:ANY~4(3) 1:ANY~5(4)]", ANY, 0, "34");
        question("ANY/0~10[0:ANY~4(3) 1:ANY~6(5)]", ANY, 0, "35");
        question("ANY/0~10[0:ANY~5(4) 1:ANY~6(5)]", ANY, 0, "45");
        question("ANY/0~10[0:ANY~5(4) 1:ANY~5(4) 2:ANY~5(4)]", ANY, 0, "444");
        planOfOne("ALL/0~0[0:ANY~0(0,-1)]", new PostingPlanner(), ANY, 0, false, 0, -2);
    }

    private void estimateOfSome() {
        told("ALL/0~2[0:SOME~2(0,0,1)]", SOME, 2, 0, 0, 1);
        told("ALL/0~2[0:SOME~2(0,1,1)]", SOME, 2, 0, 1, 1);
        told("ALL/0~3[0:SOME~3(0,1,2)]", SOME, 2, 0, 1, 2);
        told("ALL/0~1[0:SOME~1(0,0,0,1)]", SOME, 3, 0, 0, 0, 1);
        told("ALL/0~2[0:SOME~2(0,0,1,1)]", SOME, 3, 0, 0, 1, 1);
        told("ALL/0~9[0:SOME~9(7,5,4)]", SOME, 2, 7, 5, 4);
        told("ALL/0~10[0:SOME~10(7,6,4)]", SOME, 2, 7, 6, 4);
        told("ALL/0~10[0:SOME~10(7,6,5)]", SOME, 2, 7, 6, 5);
        told("ALL/0~10[0:SOME~10(7,7,5)]", SOME, 2, 7, 7, 5);
        told("ALL/0~9[0:SOME~9(7,7,7,7,7,7)]", SOME, 5, 7, 7, 7, 7, 7, 7);
        question("SOME/2~2[0:ANY~1(0) 1:ANY~2(1) 2:ANY~2(1)]", SOME, 2, "011");
        question("SOME/4~1[0:ANY~1(0) 1:ANY~1(0) 2:ANY~1(0) 3:ANY~2(1) 4:ANY~2(1)]", SOME, 4, "00011");
        question("SOME/2~9[0:ANY~8(7) 1:ANY~6(5) 2:ANY~5(4)]", SOME, 2, "754");
        question("SOME/2~10[0:ANY~8(7) 1:ANY~7(6) 2:ANY~6(5)]", SOME, 2, "765");
        question("SOME/2~10[0:ANY~8(7) 1:ANY~8(7) 2:ANY~6(5)]", SOME, 2, "775");
        question("SOME/2~3[1:ANY~1(0) 2:ANY~2(1) 3:ANY~3(2)]", SOME, 3, "A012");
        planOfOne("ALL/0~0[0:SOME~0(0,1,2)]", new PostingPlanner(), SOME, 2, false, 0, 1, 2);
    }

    private void estimateOfAlways() {
        checks.same("ALWAYS of no documents", new PostingPlanner().estimate(), 0);
        checks.same("ALWAYS of one document, 0", Samples.with(0, 0).estimate(), 1);
        checks.same("ALWAYS of one document, 39", Samples.with(39, 255).estimate(), 1);
        PostingPlanner planner = Samples.forty(0);
        checks.same("ALWAYS of forty documents", planner.estimate(), 40);
        planner.drop(0);
        checks.same("ALWAYS of thirty-nine documents", planner.estimate(), 39);
    }

    private void estimateOfNever() {
        checks.same("NEVER of no documents", Samples.asked(new PostingPlanner(), ANY, 0, "").estimate(), 0);
        checks.same("NEVER of forty documents", Samples.asked(Samples.forty(255), ANY, 0, "").estimate(), 0);
        checks.same("NEVER of an ALL", Samples.asked(Samples.forty(255), ALL, 0, "00N").estimate(), 0);
        checks.same("NEVER of a SOME", Samples.asked(Samples.forty(255), SOME, 4, "000").estimate(), 0);
    }

    private void order(Sentences sentences) {
        sentences.test("In a plan that is ALL the clauses stand by rising estimates,", this::clausesByEstimates);
        sentences.test("of the same estimate by rising numbers;", this::clausesByNumbers);
        sentences.test("in a clause that is ALL the literals stand by rising estimates,", this::literalsByEstimates);
        sentences.test("of the same estimate by rising words,", this::literalsByWords);
        sentences.test("of the same word the one that is not negated first.", this::sameWordInAll);
        sentences.test("In others they stand as they were told.", this::asTold);
    }

    private void clausesByEstimates() {
        question("ALL/0~1[4:ANY~1(0) 3:ANY~2(1) 2:ANY~3(2) 1:ANY~4(3) 0:ANY~5(4)]", ALL, 0, "43210");
        question("ALL/0~1[0:ANY~1(0) 1:ANY~2(1) 2:ANY~3(2) 3:ANY~4(3) 4:ANY~5(4)]", ALL, 0, "01234");
        question("ALL/0~1[4:ANY~1(0) 0:ANY~2(1) 1:ANY~3(2) 2:ANY~4(3) 3:ANY~5(4)]", ALL, 0, "12340");
        question("ALL/0~1[1:ANY~1(0) 0:ANY~2(1)]", SOME, 2, "10");
        question("ALL/0~1[3:ANY~1(0) 1:ANY~2(1)]", ALL, 0, "A1A0");
    }

    private void clausesByNumbers() {
        question("ALL/0~3[0:ANY~3(2) 1:ANY~3(2) 2:ANY~3(2) 3:ANY~3(2) 4:ANY~3(2)]", ALL, 0, "22222");
        question("ALL/0~1[1:ANY~1(0) 3:ANY~1(0) 0:ANY~3(2) 2:ANY~3(2) 4:ANY~3(2)]", ALL, 0, "20202");
        PostingPlanner planner = Samples.ten();
        Checks.clause(planner, ANY, 0, false, 0, 1);
        Checks.clause(planner, ALL, 0, false, 2);
        Checks.clause(planner, SOME, 2, false, 0, 1, 2);
        checks.same("the plan of an ANY, an ALL and a SOME of the same estimate", Checks.plan(planner),
                "ALL/0~3[0:ANY~3(0,1) 1:ALL~3(2) 2:SOME~3(0,1,2)]");
    }

    private void literalsByEstimates() {
        told("ALL/0~1[0:ALL~1(0,1,2,3,4,5)]", ALL, 0, 5, 4, 3, 2, 1, 0);
        told("ALL/0~1[0:ALL~1(0,1,2,3,4,5)]", ALL, 0, 1, 2, 3, 4, 5, 0);
        told("ALL/0~2[0:ALL~2(-7,2,-6)]", ALL, 0, -7, 2, -8);
        told("ALL/0~1[0:ALL~1(0,1)]", SOME, 2, 1, 0);
        negated("ALL/0~1[0:ALL~1(0,1)]", ANY, 0, -2, -1);
        told("ALL/0~4[0:ALL~4(-5,4)]", ALL, 0, 4, -6);
    }

    private void literalsByWords() {
        PostingPlanner planner = Samples.forty(15);
        planOfOne("ALL/0~40[0:ALL~40(0,1,2,3,-4,-5)]", planner, ALL, 0, false, -6, 3, -5, 2, 1, 0);
        planOfOne("ALL/0~0[0:ALL~0(-0,-1,-2,-3,4,5)]", planner, ALL, 0, false, 5, -4, 4, -3, -2, -1);
        PostingPlanner halves = Samples.with(0, 1, 39, 254);
        planOfOne("ALL/0~1[0:ALL~1(-0,1)]", halves, ALL, 0, false, 1, -1);
        planOfOne("ALL/0~1[0:ALL~1(0,-7)]", halves, ALL, 0, false, -8, 0);
        planOfOne("ALL/0~1[0:ALL~1(-6,7)]", halves, ALL, 0, false, 7, -7);
    }

    /** An ALL with a literal and its contrary is NEVER, so a place of each can only be seen to be none. */
    private void sameWordInAll() {
        PostingPlanner halves = Samples.with(0, 1, 39, 254);
        planOfOne("NEVER/0~0[]", halves, ALL, 0, false, -1, 0);
        planOfOne("NEVER/0~0[]", halves, ALL, 0, false, 0, -1);
        planOfOne("ALL/0~1[0:ALL~1(0,-1)]", halves, ALL, 0, false, -2, 0);
        planOfOne("ALL/0~1[0:ALL~1(-0,1)]", halves, ALL, 0, false, -1, 1);
    }

    private void asTold() {
        told("ALL/0~10[0:ANY~10(5,0,4,1,3,2)]", ANY, 0, 5, 0, 4, 1, 3, 2);
        told("ALL/0~10[0:SOME~10(5,0,4,1,3,2)]", SOME, 2, 5, 0, 4, 1, 3, 2);
        negated("ALL/0~3[0:ANY~3(1,0)]", ALL, 0, -2, -1);
        told("ALL/0~3[0:ANY~3(1,0)]", SOME, 1, 1, 0);
        question("ANY/0~10[0:ANY~5(4) 1:ANY~1(0) 2:ANY~4(3) 3:ANY~2(1) 4:ANY~3(2)]", ANY, 0, "40312");
        question("SOME/2~7[0:ANY~5(4) 1:ANY~1(0) 2:ANY~4(3) 3:ANY~2(1) 4:ANY~3(2)]", SOME, 2, "40312");
        question("ANY/0~6[0:ANY~5(4) 1:ANY~1(0)]", SOME, 1, "40");
        PostingPlanner planner = Samples.ten();
        planner.ask(ANY, 0);
        Checks.clause(planner, ALL, 0, false, 4, 0);
        Checks.clause(planner, ANY, 0, false, 3, 1);
        checks.same("the plan of an ANY with an ALL in it", Checks.plan(planner),
                "ANY/0~7[0:ALL~1(0,4) 1:ANY~6(3,1)]");
    }
}
