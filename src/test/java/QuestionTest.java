/** Promises 6 to 10: the question, and what matches it as it was told. */
public final class QuestionTest {
    private static final Checks CHECKS = new Checks("QuestionTest");
    private static final int ALL = PostingPlanner.ALL;
    private static final int ANY = PostingPlanner.ANY;
    private static final int SOME = PostingPlanner.SOME;

    public static void main(String[] args) {
        ask();
        clause();
        literal();
        matches();
        hits();
        CHECKS.end();
    }

    private static void ask() {
        CHECKS.promise(6, "ask");
        PostingPlanner planner = new PostingPlanner();
        planner.put(3, 1);
        CHECKS.same("ask(ALL, 0)", planner.ask(ALL, 0), 0);
        Checks.clause(planner, ANY, 0, false, 0);
        Checks.clause(planner, ANY, 0, true, 1);
        CHECKS.same("ask(ANY, 0)", planner.ask(ANY, 0), 2);
        CHECKS.same("ask(SOME, 1)", planner.ask(SOME, 1), 0);
        for (int i = 0; i < 5; i++) {
            CHECKS.same("clause after ask", planner.clause(ALL, 0, false), i);
        }
        CHECKS.same("ask(SOME, 5)", planner.ask(SOME, 5), 5);
        CHECKS.same("matches nothing without clauses", planner.matches(3), false);
        Checks.clause(planner, ALL, 0, false, 0);
        String before = Checks.picture(planner);
        int[][] wrongs = {{ALL, 1}, {ALL, -1}, {ANY, 1}, {ANY, -1}, {SOME, 0}, {SOME, 6}, {SOME, -1}, {-1, 0}, {3, 0},
            {4, 0}, {3, 1}, {Integer.MIN_VALUE, 0}, {Integer.MAX_VALUE, 1}, {SOME, Integer.MAX_VALUE},
            {SOME, Integer.MIN_VALUE}};
        for (int[] wrong : wrongs) {
            CHECKS.throwsArgument("ask(" + wrong[0] + ", " + wrong[1] + ")", () -> planner.ask(wrong[0], wrong[1]));
        }
        CHECKS.same("after throws", Checks.picture(planner), before);
        CHECKS.same("ask(ALL, 0) after throws", planner.ask(ALL, 0), 1);
        planner.clause(ANY, 0, false);
        planner.ask(ALL, 0);
        CHECKS.throwsIndex("literal of a clause of the question before", () -> planner.literal(0, 0, false));
        planner.clause(ALL, 0, false);
        CHECKS.same("a new clause has no literals of the one before", planner.literal(0, 5, false), 1);
    }

    private static void clause() {
        CHECKS.promise(7, "clause");
        PostingPlanner planner = new PostingPlanner();
        CHECKS.same("clause(ALL)", planner.clause(ALL, 0, false), 0);
        CHECKS.same("clause(ANY)", planner.clause(ANY, 0, true), 1);
        CHECKS.same("clause(SOME, 1)", planner.clause(SOME, 1, false), 2);
        CHECKS.same("clause(SOME, 6)", planner.clause(SOME, 6, true), 3);
        String before = Checks.picture(planner);
        int[][] wrongs = {{ALL, 1}, {ALL, -1}, {ANY, 1}, {ANY, -1}, {SOME, 0}, {SOME, 7}, {SOME, -1}, {-1, 0}, {3, 0},
            {4, 0}, {3, 1}, {Integer.MIN_VALUE, 0}, {Integer.MAX_VALUE, 1}, {SOME, Integer.MAX_VALUE},
            {SOME, Integer.MIN_VALUE}};
        for (int[] wrong : wrongs) {
            CHECKS.throwsArgument("clause(" + wrong[0] + ", " + wrong[1] + ")",
                    () -> planner.clause(wrong[0], wrong[1], false));
        }
        CHECKS.same("after throws", Checks.picture(planner), before);
        CHECKS.same("the fifth clause", planner.clause(ALL, 0, true), 4);
        before = Checks.picture(planner);
        CHECKS.throwsState("a sixth clause", () -> planner.clause(ALL, 0, false));
        CHECKS.throwsArgument("a sixth clause, of a wrong kind", () -> planner.clause(5, 0, false));
        CHECKS.throwsArgument("a sixth clause, of a wrong need", () -> planner.clause(SOME, 7, false));
        CHECKS.same("after more throws", Checks.picture(planner), before);
        CHECKS.same("clauses before", planner.ask(ALL, 0), 5);
    }

    private static void literal() {
        CHECKS.promise(8, "literal");
        PostingPlanner planner = new PostingPlanner();
        planner.put(0, 129);
        CHECKS.throwsIndex("literal(0, 0), no clauses", () -> planner.literal(0, 0, false));
        planner.clause(SOME, 3, false);
        planner.clause(ANY, 0, false);
        for (int i = 1; i <= 6; i++) {
            CHECKS.same("literal(0, 7)", planner.literal(0, 7, false), i);
        }
        CHECKS.same("literal(1, 0)", planner.literal(1, 0, true), 1);
        CHECKS.same("matches(0)", planner.matches(0), false);
        CHECKS.same("literal(1, 0), its contrary", planner.literal(1, 0, false), 2);
        CHECKS.same("matches(0) then", planner.matches(0), true);
        String before = Checks.picture(planner);
        CHECKS.throwsState("a seventh literal", () -> planner.literal(0, 0, false));
        CHECKS.throwsIndex("a seventh literal of a wrong word", () -> planner.literal(0, 8, false));
        CHECKS.throwsIndex("a seventh literal of a negative word", () -> planner.literal(0, -1, true));
        CHECKS.throwsIndex("literal(2, 0)", () -> planner.literal(2, 0, false));
        CHECKS.throwsIndex("literal(-1, 0)", () -> planner.literal(-1, 0, false));
        CHECKS.throwsIndex("literal(5, 0)", () -> planner.literal(5, 0, false));
        CHECKS.throwsIndex("literal(least, 0)", () -> planner.literal(Integer.MIN_VALUE, 0, false));
        CHECKS.throwsIndex("literal(most, 0)", () -> planner.literal(Integer.MAX_VALUE, 0, false));
        CHECKS.throwsIndex("literal(1, 8)", () -> planner.literal(1, 8, false));
        CHECKS.throwsIndex("literal(1, -1)", () -> planner.literal(1, -1, false));
        CHECKS.throwsIndex("literal(1, most)", () -> planner.literal(1, Integer.MAX_VALUE, false));
        CHECKS.throwsIndex("literal(1, least)", () -> planner.literal(1, Integer.MIN_VALUE, false));
        CHECKS.same("after throws", Checks.picture(planner), before);
        CHECKS.same("literal(1, 3) after throws", planner.literal(1, 3, false), 3);
    }

    /** Documents 0 to 7 have the words 0 to 2 as the bits of their numbers; 8 has all; others are not there. */
    private static PostingPlanner eight() {
        PostingPlanner planner = new PostingPlanner();
        for (int document = 0; document < 8; document++) {
            planner.put(document, document);
        }
        planner.put(8, 255);
        return planner;
    }

    private static void oneClause(String due, int kind, int need, boolean isNegated, int... literals) {
        PostingPlanner planner = eight();
        Checks.clause(planner, kind, need, isNegated, literals);
        StringBuilder what = new StringBuilder("matching kind " + kind + " need " + need + (isNegated ? " not" : ""));
        for (int literal : literals) {
            what.append(' ').append(literal);
        }
        CHECKS.same(what.toString(), Checks.matching(planner), due);
    }

    private static void matches() {
        CHECKS.promise(9, "matches");
        oneClause("0 1 2 3 4 5 6 7 8", ALL, 0, false);
        oneClause("", ALL, 0, true);
        oneClause("", ANY, 0, false);
        oneClause("0 1 2 3 4 5 6 7 8", ANY, 0, true);
        oneClause("", SOME, 1, false);
        oneClause("0 1 2 3 4 5 6 7 8", SOME, 1, true);
        oneClause("3 7 8", ALL, 0, false, 0, 1);
        oneClause("0 1 2 4 5 6", ALL, 0, true, 0, 1);
        oneClause("1 5", ALL, 0, false, 0, -2);
        oneClause("1 2 3 5 6 7 8", ANY, 0, false, 0, 1);
        oneClause("0 4", ANY, 0, true, 0, 1);
        oneClause("0 1 3 4 5 7 8", ANY, 0, false, 0, -2);
        oneClause("3 5 6 7 8", SOME, 2, false, 0, 1, 2);
        oneClause("0 1 2 4", SOME, 2, true, 0, 1, 2);
        oneClause("1 3 5 7 8", SOME, 2, false, 0, 0);
        oneClause("1 3 5 6 7 8", SOME, 2, false, 0, 0, 1, 2);
        oneClause("", SOME, 3, false, 0, 0);
        oneClause("0 1 2 3 4 5 6 7 8", SOME, 3, true, 0, 0);
        oneClause("0 1 2 3 4 5 6 7 8", SOME, 1, false, 0, -1);
        oneClause("8", ALL, 0, false, 7);
        oneClause("0 1 2 3 4 5 6 7", ALL, 0, false, -8);
        twoClauses("3 7 8", ALL, 0);
        twoClauses("1 2 3 5 6 7 8", ANY, 0);
        twoClauses("1 2 3 5 6 7 8", SOME, 1);
        twoClauses("3 7 8", SOME, 2);
        twoClauses("", SOME, 3);
        PostingPlanner planner = eight();
        Checks.clause(planner, ALL, 0, false, -1);
        CHECKS.same("matches of one that is not there", planner.matches(9), false);
        planner.drop(4);
        planner.put(2, 1);
        planner.put(39, 6);
        CHECKS.same("matching after changes", Checks.matching(planner), "0 6 39");
        CHECKS.throwsIndex("matches(-1)", () -> planner.matches(-1));
        CHECKS.throwsIndex("matches(40)", () -> planner.matches(40));
        CHECKS.throwsIndex("matches(most)", () -> planner.matches(Integer.MAX_VALUE));
        CHECKS.throwsIndex("matches(least)", () -> planner.matches(Integer.MIN_VALUE));
    }

    /** The clauses are: word 0; not both of: not word 1, no more. */
    private static void twoClauses(String due, int kind, int need) {
        PostingPlanner planner = eight();
        planner.ask(kind, need);
        Checks.clause(planner, ALL, 0, false, 0);
        Checks.clause(planner, ALL, 0, true, -2);
        CHECKS.same("matching two clauses, question of kind " + kind + " need " + need, Checks.matching(planner), due);
    }

    private static void hits() {
        CHECKS.promise(10, "hits");
        PostingPlanner planner = eight();
        CHECKS.same("hits() of an ALL without clauses", planner.hits(), 9);
        Checks.clause(planner, ANY, 0, false, 0, 1);
        CHECKS.same("hits()", planner.hits(), 7);
        planner.drop(8);
        CHECKS.same("hits() after a drop", planner.hits(), 6);
        planner.put(39, 2);
        planner.put(0, 1);
        CHECKS.same("hits() after two puts", planner.hits(), 8);
        planner.ask(ANY, 0);
        CHECKS.same("hits() of an ANY without clauses", planner.hits(), 0);
        planner.ask(SOME, 2);
        Checks.clause(planner, ALL, 0, false, 0);
        Checks.clause(planner, ALL, 0, false, 0);
        CHECKS.same("hits() of a SOME with a clause twice", planner.hits(), 5);
    }
}
