/** Promises 19 to 22: runs, what they give and what they read. */
public final class RunTest {
    private static final Checks CHECKS = new Checks("RunTest");
    private static final int ALL = PostingPlanner.ALL;
    private static final int ANY = PostingPlanner.ANY;
    private static final int SOME = PostingPlanner.SOME;
    private static final int NONE = PostingPlanner.NONE;

    public static void main(String[] args) {
        begin();
        laterChanges();
        leap();
        next();
        readings();
        readingsOfLiterals();
        readingsOfAll();
        readingsOfAny();
        readingsOfSome();
        readingsOfNested();
        withoutRun();
        CHECKS.end();
    }

    private static PostingPlanner tenAsked(int kind, int need, int... literals) {
        PostingPlanner planner = Samples.ten();
        Checks.clause(planner, kind, need, false, literals);
        return planner;
    }

    private static void begin() {
        CHECKS.promise(19, "begin");
        CHECKS.same("begin() of a new object", new PostingPlanner().begin(), 0);
        PostingPlanner planner = tenAsked(ANY, 0, 2, 3);
        CHECKS.same("begin()", planner.begin(), 7);
        CHECKS.same("next()", planner.next(), 0);
        CHECKS.same("next()", planner.next(), 1);
        CHECKS.same("begin() again", planner.begin(), 7);
        CHECKS.same("readings() of the new run", planner.readings(), 0);
        CHECKS.same("next() of the new run", planner.next(), 0);
        CHECKS.same("leap(20)", planner.leap(20), NONE);
        planner.drop(0);
        CHECKS.same("begin() after one that is over", planner.begin(), 5);
        CHECKS.same("next() of that", planner.next(), 1);
        planner.ask(ANY, 0);
        CHECKS.same("begin() of NEVER", planner.begin(), 0);
        CHECKS.same("next() of NEVER", planner.next(), NONE);
    }

    private static void laterChanges() {
        CHECKS.promise(19, "what is told after begin");
        PostingPlanner planner = tenAsked(ALL, 0, 3, -2);
        planner.begin();
        planner.drop(2);
        planner.put(3, 0);
        planner.put(30, 8);
        planner.literal(0, 7, true);
        planner.clause(ANY, 0, false);
        CHECKS.same("the plan that would be made now", planner.planKind(), PostingPlanner.NEVER);
        CHECKS.same("the run", Checks.rest(planner), "2/5 3/7 -1/8");
        CHECKS.same("a run after that", Checks.wholeRun(planner), "0: -1/0");
        PostingPlanner always = new PostingPlanner();
        always.put(5, 0);
        always.begin();
        always.put(6, 0);
        always.drop(5);
        always.ask(SOME, 3);
        CHECKS.same("the run of ALWAYS", Checks.rest(always), "5/0 -1/0");
    }

    private static void leap() {
        CHECKS.promise(20, "leap");
        PostingPlanner planner = tenAsked(ANY, 0, 6, 2);
        planner.put(39, 4);
        planner.begin();
        CHECKS.same("leap(0)", planner.leap(0), 0);
        CHECKS.same("leap(0) again", planner.leap(0), 1);
        CHECKS.same("leap(4)", planner.leap(4), 4);
        CHECKS.same("leap(2), before the one given", planner.leap(2), 5);
        CHECKS.same("leap(5), the one given", planner.leap(5), 6);
        CHECKS.same("leap(8), between", planner.leap(8), 39);
        int readings = planner.readings();
        CHECKS.same("leap(39), given", planner.leap(39), NONE);
        CHECKS.same("leap(0), none before", planner.leap(0), NONE);
        CHECKS.same("nothing is sought at the end", planner.readings(), readings);
        planner.begin();
        CHECKS.same("leap(39), at first", planner.leap(39), 39);
        planner.drop(39);
        planner.begin();
        CHECKS.same("leap(7), none", planner.leap(7), NONE);
        CHECKS.same("leap(0), none before, though some match", planner.leap(0), NONE);
        CHECKS.same("next(), none before", planner.next(), NONE);
        planner.begin();
        planner.leap(3);
        CHECKS.throwsIndex("leap(-1)", () -> planner.leap(-1));
        CHECKS.throwsIndex("leap(40)", () -> planner.leap(40));
        CHECKS.throwsIndex("leap(least)", () -> planner.leap(Integer.MIN_VALUE));
        CHECKS.throwsIndex("leap(most)", () -> planner.leap(Integer.MAX_VALUE));
        CHECKS.same("after throws", Checks.rest(planner), "4/3 5/4 6/5 -1/6");
    }

    private static void next() {
        CHECKS.promise(21, "next");
        PostingPlanner planner = tenAsked(ALL, 0, 2, 5);
        planner.begin();
        CHECKS.same("next()", planner.next(), 0);
        CHECKS.same("leap(2)", planner.leap(2), 2);
        CHECKS.same("next() at the end", planner.next(), NONE);
        CHECKS.same("next() behind the end", planner.next(), NONE);
        PostingPlanner full = new PostingPlanner();
        for (int document = 0; document < 40; document++) {
            full.put(document, 1);
        }
        full.begin();
        for (int document = 0; document < 40; document++) {
            CHECKS.same("next() of forty", full.next(), document);
        }
        CHECKS.same("next() after 39", full.next(), NONE);
        full.begin();
        CHECKS.same("leap(39)", full.leap(39), 39);
        CHECKS.same("next() after leap(39)", full.next(), NONE);
    }

    private static void readings() {
        CHECKS.promise(22, "readings");
        PostingPlanner planner = tenAsked(ANY, 0, 0);
        planner.begin();
        CHECKS.same("readings() at first", planner.readings(), 0);
        planner.next();
        CHECKS.same("readings() of one", planner.readings(), 1);
        planner.matches(0);
        planner.hits();
        planner.planKind();
        CHECKS.same("other calls read nothing", planner.readings(), 1);
        planner.next();
        planner.next();
        planner.next();
        CHECKS.same("readings() once there is none", planner.readings(), 2);
        CHECKS.same("of ALWAYS", Checks.wholeRun(tenAsked(ALL, 0)), "10: 0/0 1/0 2/0 3/0 4/0 5/0 6/0 7/0 8/0 9/0 -1/0");
        CHECKS.same("of NEVER", Checks.wholeRun(tenAsked(ANY, 0)), "0: -1/0");
        planner.ask(ALL, 0);
        planner.drop(0);
        planner.drop(1);
        planner.begin();
        CHECKS.same("leap(1) of ALWAYS", planner.leap(1), 2);
        CHECKS.same("leap(9) of ALWAYS", planner.leap(9), 9);
        CHECKS.same("next() of ALWAYS", planner.next(), NONE);
    }

    private static void readingsOfLiterals() {
        CHECKS.promise(22, "readings of literals");
        CHECKS.same("a word", Checks.wholeRun(tenAsked(ANY, 0, 1)), "2: 0/1 1/2 -1/3");
        CHECKS.same("a word that none has", Checks.wholeRun(new Builder().doc(3, 2).asked(ANY, 0)), "0: -1/1");
        CHECKS.same("a negated word", Checks.wholeRun(tenAsked(ANY, 0, -8)), "2: 8/9 9/10 -1/11");
        PostingPlanner gaps = new PostingPlanner();
        gaps.put(4, 1);
        gaps.put(10, 1);
        gaps.put(20, 0);
        gaps.put(30, 1);
        Checks.clause(gaps, ANY, 0, false, -1);
        CHECKS.same("a negated word, with gaps", Checks.wholeRun(gaps), "1: 20/3 -1/5");
        gaps.begin();
        CHECKS.same("leap(10)", gaps.leap(10), 20);
        CHECKS.same("readings from 10 to 20", gaps.readings(), 2);
        CHECKS.same("leap(31)", gaps.leap(31), NONE);
        CHECKS.same("readings from 31 to the end", gaps.readings(), 3);
        PostingPlanner none = new PostingPlanner();
        Checks.clause(none, ANY, 0, false, -1);
        CHECKS.same("a negated word, without documents", Checks.wholeRun(none), "0: -1/1");
    }

    private static void readingsOfAll() {
        CHECKS.promise(22, "readings of ALL");
        CHECKS.same("a word, a negated one", Checks.wholeRun(tenAsked(ALL, 0, 1, -1)), "2: 1/4 -1/5");
        CHECKS.same("ends as soon as one part is at the end",
                Checks.wholeRun(new Builder().doc(3, 1).doc(5, 2).asked(ALL, 0, 1)), "1: -1/3");
        CHECKS.same("begins again with the first part",
                Checks.wholeRun(new Builder().doc(0, 1).doc(1, 6).doc(2, 1).doc(3, 7).doc(4, 6).doc(5, 6).asked(ALL, 0, 1, 2)),
                "3: 3/6 -1/7");
    }

    private static void readingsOfAny() {
        CHECKS.promise(22, "readings of ANY");
        CHECKS.same("all parts are sought", Checks.wholeRun(tenAsked(ANY, 0, 0, 2)), "4: 0/2 1/4 2/5 -1/6");
        CHECKS.same("a part ahead is not", Checks.wholeRun(new Builder().doc(1, 1).doc(2, 1).doc(9, 2).asked(ANY, 0, 1)),
                "3: 1/2 2/3 9/4 -1/5");
    }

    private static void readingsOfSome() {
        CHECKS.promise(22, "readings of SOME");
        PostingPlanner planner = new PostingPlanner();
        planner.put(0, 1);
        planner.put(2, 2);
        planner.put(4, 3);
        planner.put(6, 4);
        planner.put(8, 6);
        Checks.clause(planner, SOME, 2, false, 0, 1, 2);
        CHECKS.same("2 of 3", Checks.wholeRun(planner), "3: 4/5 8/8 -1/10");
        PostingPlanner twice = new PostingPlanner();
        twice.put(1, 1);
        twice.put(3, 3);
        Checks.clause(twice, SOME, 2, false, 0, 0, 1);
        CHECKS.same("a literal twice is read twice", Checks.wholeRun(twice), "2: 1/3 3/5 -1/8");
    }

    private static void readingsOfNested() {
        CHECKS.promise(22, "readings of clauses in a question");
        PostingPlanner planner = Samples.ten();
        planner.ask(ALL, 0);
        Checks.clause(planner, ANY, 0, false, 3, 4);
        Checks.clause(planner, ALL, 0, false, 3, -3);
        CHECKS.same("ALL of an ALL and an ANY", Checks.wholeRun(planner), "4: 3/8 -1/9");
        planner.ask(SOME, 1);
        Checks.clause(planner, ALL, 0, false, 0, 1);
        Checks.clause(planner, ALL, 0, false, 9 - 2);
        CHECKS.same("ANY of two ALL", Checks.wholeRun(planner), "9: 0/3 1/5 2/6 3/7 4/8 5/9 6/10 7/11 -1/12");
    }

    private static void withoutRun() {
        CHECKS.topic("promises 20 to 22, without a run");
        PostingPlanner planner = tenAsked(ALL, 0, 2);
        String before = Checks.picture(planner);
        CHECKS.throwsState("leap(0)", () -> planner.leap(0));
        CHECKS.throwsState("leap(39)", () -> planner.leap(39));
        CHECKS.throwsIndex("leap(40), both wrong", () -> planner.leap(40));
        CHECKS.throwsIndex("leap(-1), both wrong", () -> planner.leap(-1));
        CHECKS.throwsState("next()", () -> planner.next());
        CHECKS.throwsState("readings()", () -> planner.readings());
        CHECKS.same("after throws", Checks.picture(planner), before);
        CHECKS.throwsState("still no run", () -> planner.next());
        planner.begin();
        CHECKS.same("a run", Checks.rest(planner), "0/1 1/2 2/3 -1/4");
    }

    /** Documents in a row, then a question of one clause. */
    private static final class Builder {
        private final PostingPlanner planner = new PostingPlanner();

        Builder doc(int document, int words) {
            planner.put(document, words);
            return this;
        }

        PostingPlanner asked(int kind, int first, int... more) {
            planner.clause(kind, 0, false);
            planner.literal(0, first, false);
            for (int word : more) {
                planner.literal(0, word, false);
            }
            return planner;
        }
    }
}
