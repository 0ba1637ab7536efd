/** The sentences of the section on runs: what a run gives, and what seeking reads. */
final class RunBoundaries {
    private static final int ALL = Samples.ALL;
    private static final int ANY = Samples.ANY;
    private static final int SOME = Samples.SOME;
    private static final int NONE = Samples.NONE;

    private final Checks checks;

    RunBoundaries(Checks checks) {
        this.checks = checks;
    }

    void test(Sentences sentences) {
        sentences.in("Runs", "promises 19 to 22 (Runs)");
        wholes(sentences);
        literals(sentences);
        groups(sentences);
        fixed(sentences);
    }

    /** A whole run of a question ALL of one clause, on these documents. */
    private void run(String due, PostingPlanner planner, int kind, int need, int... literals) {
        Samples.one(planner, kind, need, false, literals);
        String what = "the run of " + Checks.plan(planner);
        checks.same(what, Checks.wholeRun(planner), due);
    }

    /** A whole run of a question of clauses of a word each, on these documents. */
    private void runOfClauses(String due, PostingPlanner planner, int kind, int need, String clauses) {
        Samples.asked(planner, kind, need, clauses);
        String what = "the run of " + Checks.plan(planner);
        checks.same(what, Checks.wholeRun(planner), due);
    }

    /** A new run: one leap, and what it has read. */
    private void firstLeap(String due, PostingPlanner planner, int document) {
        planner.begin();
        int found = planner.leap(document);
        checks.same("leap(" + document + ") at first, and readings() then", found + "/" + planner.readings(), due);
    }

    private void wholes(Sentences sentences) {
        sentences.test("A run is of the plan and the documents as they are when it begins; what is told later does not "
                + "matter for it.", this::asItBegan);
        sentences.test("The end is 40.", this::endIsForty);
        sentences.test("A run gives documents by rising numbers, those that match;", this::risingMatches);
        sentences.test("once it has told that there is none any more, this stays so.", this::staysNone);
        sentences.test("The next one that is d or behind it, d being behind all that it gave, is found by seeking d in "
                + "the plan;", this::behindAllGiven);
        sentences.test("if d is the end, nothing is sought, and there is none.", this::nothingSoughtAtTheEnd);
        sentences.withoutPromise("To seek d:");
    }

    private static void tellMuch(PostingPlanner planner) {
        planner.put(0, 2);
        planner.put(5, 1);
        planner.drop(20);
        planner.drop(39);
        planner.literal(0, 3, false);
        planner.clause(ANY, 0, false);
        planner.ask(ANY, 0);
    }

    private void asItBegan() {
        PostingPlanner planner = Samples.one(Samples.with(0, 1, 20, 3, 39, 1), ALL, 0, false, 0, -2);
        planner.begin();
        tellMuch(planner);
        checks.same("told right after begin()", Checks.rest(planner), "0/2 39/5 -1/5");
        planner = Samples.one(Samples.with(0, 1, 20, 3, 39, 1), ALL, 0, false, 0, -2);
        planner.begin();
        planner.next();
        tellMuch(planner);
        checks.same("told amid the run", Checks.rest(planner), "39/5 -1/5");
        planner = Samples.with(0, 0, 39, 255);
        planner.begin();
        planner.drop(0);
        planner.drop(39);
        planner.put(20, 0);
        planner.ask(ANY, 0);
        checks.same("told in a run of ALWAYS", Checks.rest(planner), "0/0 39/0 -1/0");
        planner = Samples.one(Samples.with(0, 0), ANY, 0, false);
        planner.begin();
        planner.ask(ALL, 0);
        checks.same("told in a run of NEVER", Checks.rest(planner), "-1/0");
        planner = new PostingPlanner();
        planner.begin();
        planner.put(0, 0);
        checks.same("told in a run without documents", Checks.rest(planner), "-1/0");
    }

    private void endIsForty() {
        run("1: 39/1 -1/1", Samples.with(39, 1), ANY, 0, 0);
        run("1: 38/1 -1/2", Samples.with(38, 1), ANY, 0, 0);
        run("1: 39/1 -1/1", Samples.with(39, 0), ANY, 0, -1);
        firstLeap("39/1", Samples.one(Samples.with(39, 1), ANY, 0, false, 0), 39);
        firstLeap("-1/1", Samples.one(Samples.with(38, 1), ANY, 0, false, 0), 39);
        firstLeap("39/0", Samples.with(39, 0), 39);
        firstLeap("-1/0", Samples.with(38, 0), 39);
    }

    private void risingMatches() {
        PostingPlanner all = Samples.forty(255);
        all.begin();
        for (int document = 0; document < 40; document++) {
            checks.same("next() of all forty", all.next(), document);
        }
        checks.same("next() after all forty", all.next(), NONE);
        for (Samples.Sample sample : Samples.all()) {
            PostingPlanner planner = sample.made.get();
            planner.begin();
            StringBuilder given = new StringBuilder();
            for (int document = planner.next(); document != NONE && given.length() < 200; document = planner.next()) {
                given.append(given.length() == 0 ? "" : " ").append(document);
            }
            checks.same("what a run gives of " + sample.name, given.toString(), Checks.matching(planner));
        }
        PostingPlanner edges = Samples.one(Samples.with(0, 1, 1, 0, 38, 0, 39, 1), ANY, 0, false, 0);
        checks.same("the run of the first and the last one", Checks.wholeRun(edges), "2: 0/1 39/2 -1/2");
    }

    private void staysNone() {
        PostingPlanner planner = Samples.one(Samples.with(0, 1, 5, 1, 39, 2), ANY, 0, false, 0);
        firstLeap("-1/1", planner, 6);
        noneAnyMore("after leap(6)", planner, 1);
        planner.put(20, 1);
        noneAnyMore("after leap(6) and put(20)", planner, 1);
        firstLeap("39/2", Samples.one(planner, ANY, 0, false, 0, 1), 39);
        noneAnyMore("after 39 was given", planner, 2);
        PostingPlanner always = Samples.with(0, 0, 5, 0);
        firstLeap("-1/0", always, 6);
        noneAnyMore("of ALWAYS, after leap(6)", always, 0);
        PostingPlanner never = Samples.asked(Samples.with(0, 0), ANY, 0, "");
        firstLeap("-1/0", never, 39);
        noneAnyMore("of NEVER, after leap(39)", never, 0);
        PostingPlanner some = Samples.one(Samples.with(0, 3, 5, 1), SOME, 2, false, 0, 1, 2);
        firstLeap("-1/3", some, 1);
        noneAnyMore("of SOME, after leap(1)", some, 3);
    }

    private void noneAnyMore(String when, PostingPlanner planner, int readings) {
        checks.same("next() " + when, planner.next(), NONE);
        for (int document : new int[] {0, 5, 6, 20, 39, 0}) {
            checks.same("leap(" + document + ") " + when, planner.leap(document), NONE);
        }
        checks.same("readings() " + when, planner.readings(), readings);
    }

    private void behindAllGiven() {
        PostingPlanner planner = Samples.one(Samples.with(0, 1, 1, 1, 5, 1, 6, 1, 20, 1, 39, 1), ANY, 0, false, 0);
        planner.begin();
        int[][] leaps = {{0, 0}, {0, 1}, {1, 5}, {5, 6}, {8, 20}, {19, 39}, {39, NONE}};
        for (int i = 0; i < leaps.length; i++) {
            checks.same("leap(" + leaps[i][0] + "), the " + (i + 1) + "th one", planner.leap(leaps[i][0]), leaps[i][1]);
            checks.same("readings() then", planner.readings(), Math.min(i + 1, 6));
        }
        firstLeap("5/1", planner, 5);
        checks.same("leap(4), before the one given", planner.leap(4), 6);
        checks.same("leap(7), right behind the one given", planner.leap(7), 20);
        firstLeap("5/1", planner, 2);
        firstLeap("20/1", planner, 20);
        firstLeap("39/1", planner, 21);
        firstLeap("39/1", planner, 39);
    }

    private void nothingSoughtAtTheEnd() {
        run("2: 0/2 39/3 -1/3", Samples.with(0, 1, 39, 3), ANY, 0, 0, 1);
        run("1: 38/1 -1/2", Samples.with(38, 1), ANY, 0, 0);
        run("1: 39/2 -1/2", Samples.with(39, 1), ANY, 0, 0, 1);
        PostingPlanner planner = Samples.one(Samples.forty(0), ANY, 0, false, -1);
        firstLeap("39/1", planner, 39);
        checks.same("leap(39)", planner.leap(39), NONE);
        checks.same("leap(0)", planner.leap(0), NONE);
        checks.same("next()", planner.next(), NONE);
        checks.same("readings()", planner.readings(), 1);
    }

    private void literals(Sentences sentences) {
        sentences.test("- In a literal: it has a place, none at first.", this::literalPlaceAtFirst);
        sentences.test("If its place is d or more, nothing is done.", this::literalPlaceAhead);
        sentences.test("Otherwise its place becomes the least document from d on that is there and of which it is true, "
                + "or the end.", this::literalPlaces);
        sentences.test("If it is not negated, that is 1 reading.", this::plainReadings);
        sentences.test("If it is negated, that is 1 reading for each document that is there, from d to its place, its "
                + "place included,", this::negatedReadings);
        sentences.test("and 1 more if its place is the end.", this::negatedReadingsAtTheEnd);
    }

    private void literalPlaceAtFirst() {
        run("1: 0/1 -1/2", Samples.with(0, 1), ANY, 0, 0);
        run("1: 0/1 -1/2", Samples.with(0, 0), ANY, 0, -1);
        PostingPlanner planner = Samples.one(Samples.with(0, 1), ANY, 0, false, 0);
        firstLeap("0/1", planner, 0);
        firstLeap("0/1", planner, 0);
        firstLeap("-1/1", planner, 1);
        firstLeap("0/1", planner, 0);
    }

    private void literalPlaceAhead() {
        run("3: 0/2 1/3 2/4 -1/5", Samples.with(0, 1, 1, 2, 2, 1), ANY, 0, 0, 1);
        run("4: 0/2 1/3 2/4 9/5 -1/6", Samples.with(0, 1, 1, 1, 2, 1, 9, 2), ANY, 0, 0, 1);
        run("4: 0/5 1/6 2/7 9/8 -1/9", Samples.with(0, 3, 1, 3, 2, 3, 9, 0), ANY, 0, 1, -1);
        run("2: 0/2 1/3 -1/4", Samples.with(0, 1, 1, 1), ANY, 0, 0, 1);
        run("2: 0/4 1/5 -1/6", Samples.with(0, 3, 1, 3), ANY, 0, 0, -2);
    }

    private void literalPlaces() {
        PostingPlanner plain = Samples.with(0, 2, 1, 1, 2, 1, 3, 1, 38, 1, 39, 2);
        PostingPlanner contrary = Samples.with(0, 1, 1, 0, 2, 0, 3, 0, 38, 0, 39, 1);
        Samples.one(plain, ANY, 0, false, 0);
        Samples.one(contrary, ANY, 0, false, -1);
        int[][] leaps = {{0, 1}, {1, 1}, {2, 3}, {3, 3}, {4, 38}, {37, 38}, {38, 38}, {39, NONE}};
        for (PostingPlanner planner : new PostingPlanner[] {plain, contrary}) {
            planner.drop(2);
            for (int[] leap : leaps) {
                planner.begin();
                checks.same("leap(" + leap[0] + ") at first", planner.leap(leap[0]), leap[1]);
            }
        }
        plain.put(39, 1);
        firstLeap("39/1", plain, 39);
        contrary.put(39, 0);
        firstLeap("39/1", contrary, 39);
    }

    private void plainReadings() {
        PostingPlanner far = Samples.forty(0);
        far.put(39, 1);
        run("1: 39/1 -1/1", far, ANY, 0, 0);
        run("1: 0/1 -1/2", Samples.with(0, 1), ANY, 0, 0);
        run("0: -1/1", Samples.forty(0), ANY, 0, 0);
        run("0: -1/1", new PostingPlanner(), ANY, 0, 7);
        firstLeap("-1/1", Samples.one(Samples.forty(254), ANY, 0, false, 0), 39);
        firstLeap("39/1", Samples.one(Samples.forty(1), ANY, 0, false, 0), 39);
    }

    private void negatedReadings() {
        PostingPlanner far = Samples.forty(1);
        far.put(39, 0);
        run("1: 39/40 -1/40", far, ANY, 0, -1);
        firstLeap("39/40", far, 0);
        firstLeap("39/39", far, 1);
        firstLeap("39/2", far, 38);
        firstLeap("39/1", far, 39);
        run("1: 0/1 -1/2", Samples.with(0, 0), ANY, 0, -1);
        PostingPlanner gaps = Samples.with(0, 1, 10, 1, 15, 1, 20, 0, 30, 0);
        gaps.drop(15);
        run("2: 20/3 30/4 -1/5", gaps, ANY, 0, -1);
        firstLeap("20/2", gaps, 1);
        firstLeap("20/2", gaps, 10);
        firstLeap("20/1", gaps, 11);
        firstLeap("20/1", gaps, 20);
        firstLeap("30/1", gaps, 21);
        firstLeap("30/1", gaps, 30);
    }

    private void negatedReadingsAtTheEnd() {
        PostingPlanner all = Samples.forty(128);
        run("0: -1/41", all, ANY, 0, -8);
        firstLeap("-1/40", all, 1);
        firstLeap("-1/3", all, 38);
        firstLeap("-1/2", all, 39);
        run("0: -1/1", new PostingPlanner(), ANY, 0, -8);
        PostingPlanner one = Samples.one(Samples.with(38, 1), ANY, 0, false, -1);
        firstLeap("-1/2", one, 0);
        firstLeap("-1/2", one, 38);
        firstLeap("-1/1", one, 39);
        firstLeap("39/1", Samples.one(Samples.with(39, 0), ANY, 0, false, -1), 0);
    }

    private void groups(Sentences sentences) {
        sentences.test("- In a clause, or the plan, with parts (literals or clauses): it has a place, none at first.",
                this::groupPlaceAtFirst);
        sentences.test("If its place is d or more, nothing is done. Otherwise:", this::groupPlaceAhead);
        sentences.test("ALL: d is sought in its parts, one after the other.", this::allOneAfterTheOther);
        sentences.test("Right behind each one: if the place of that one is the end, the own place is the end, and no "
                + "more is done;", this::allAtTheEnd);
        sentences.test("if it is more than d, d becomes that place, and it begins again with the first part.",
                this::allBeginsAgain);
        sentences.test("Once the places of all are d, the own place is d.", this::allAgreed);
        sentences.test("ANY: d is sought in all parts;", this::anySeeksAll);
        sentences.test("its place is the least one of their places.", this::anyLeast);
        sentences.test("SOME with the need n: d is sought in all parts;", this::someSeeksAll);
        sentences.test("if the n-th of their places, by rising places, is more than d, d becomes this, and it begins "
                + "again,", this::someBeginsAgain);
        sentences.test("unless this is the end;", this::someAtTheEnd);
        sentences.test("in the end its place is d.", this::somePlace);
    }

    private void groupPlaceAtFirst() {
        run("2: 0/2 1/4 -1/5", Samples.with(0, 3, 1, 7), ALL, 0, 0, 1);
        run("2: 0/2 1/4 -1/6", Samples.with(0, 3, 1, 7), ANY, 0, 0, 1);
        run("2: 0/3 1/5 -1/8", Samples.with(0, 3, 1, 7), SOME, 2, 0, 1, 2);
        PostingPlanner planner = Samples.asked(Samples.with(0, 3, 1, 7), SOME, 2, "012");
        firstLeap("-1/3", planner, 2);
        firstLeap("0/3", planner, 0);
    }

    private void groupPlaceAhead() {
        PostingPlanner planner = Samples.with(0, 4, 1, 2, 2, 2, 3, 1, 5, 4, 6, 4);
        planner.ask(ANY, 0);
        Checks.clause(planner, ALL, 0, false, 0, 1);
        Checks.clause(planner, ANY, 0, false, 2);
        checks.same("the run of an ANY with an ALL at the end", Checks.wholeRun(planner), "4: 0/3 5/4 6/5 -1/6");
        planner = Samples.with(0, 8, 2, 1, 5, 8, 6, 8);
        planner.ask(ANY, 0);
        Checks.clause(planner, SOME, 2, false, 0, 1, 2);
        Checks.clause(planner, ANY, 0, false, 3);
        checks.same("the run of an ANY with a SOME at the end", Checks.wholeRun(planner), "3: 0/4 5/5 6/6 -1/7");
        planner = Samples.with(0, 4, 1, 4, 9, 3);
        planner.ask(ANY, 0);
        Checks.clause(planner, ANY, 0, false, 0, 1);
        Checks.clause(planner, ANY, 0, false, 2);
        checks.same("the run of an ANY with an ANY ahead", Checks.wholeRun(planner), "3: 0/3 1/4 9/5 -1/7");
        planner = Samples.one(Samples.with(1, 2, 2, 2, 3, 1), ALL, 0, false, 0, 1);
        firstLeap("-1/2", planner, 0);
        checks.same("leap(10) of an ALL at the end", planner.leap(10), NONE);
        checks.same("readings() then", planner.readings(), 2);
    }

    private void allOneAfterTheOther() {
        run("1: 0/2 -1/3", Samples.with(0, 3, 1, 2), ALL, 0, 1, 0);
        runOfClauses("1: 0/2 -1/3", Samples.with(0, 3, 1, 2), ALL, 0, "10");
        run("2: 0/6 39/12 -1/12", Samples.with(0, 63, 39, 63), ALL, 0, 5, 4, 3, 2, 1, 0);
        runOfClauses("2: 0/5 39/10 -1/10", Samples.with(0, 63, 39, 63), ALL, 0, "43210");
        run("1: 0/1 -1/2", Samples.with(0, 1), ALL, 0, 0);
    }

    private void allAtTheEnd() {
        run("0: -1/1", Samples.with(0, 2, 1, 4), ALL, 0, 0, 1, 2);
        runOfClauses("0: -1/1", Samples.with(0, 2, 1, 4), ALL, 0, "012");
        run("1: -1/2", Samples.with(0, 2, 1, 2, 3, 5, 4, 4, 5, 4), ALL, 0, 0, 1, 2);
        runOfClauses("1: -1/2", Samples.with(0, 2, 1, 2, 3, 5, 4, 4, 5, 4), ALL, 0, "012");
        run("1: -1/3", Samples.with(0, 4, 1, 4, 2, 4, 3, 3), ALL, 0, 0, 1, 2);
        runOfClauses("1: -1/3", Samples.with(0, 4, 1, 4, 2, 4, 3, 3), ALL, 0, "012");
    }

    private void allBeginsAgain() {
        run("1: -1/3", Samples.with(0, 1, 3, 6), ALL, 0, 0, 1, 2);
        runOfClauses("1: -1/3", Samples.with(0, 1, 3, 6), ALL, 0, "012");
        run("3: 4/6 -1/7", Samples.with(0, 1, 1, 2, 2, 1, 3, 2, 4, 3), ALL, 0, 0, 1);
        runOfClauses("3: 4/6 -1/7", Samples.with(0, 1, 1, 2, 2, 1, 3, 2, 4, 3), ALL, 0, "01");
        run("1: 30/2 -1/3", Samples.with(0, 1, 30, 3), ALL, 0, 0, 1);
        run("1: 39/2 -1/2", Samples.with(0, 1, 39, 3), ALL, 0, 0, 1);
        int[] farAhead = {0, 1, 1, 1, 2, 1, 30, 3, 31, 2, 32, 2, 33, 2};
        run("4: 30/3 -1/4", Samples.with(farAhead), ALL, 0, 0, 1);
        runOfClauses("4: 30/3 -1/4", Samples.with(farAhead), ALL, 0, "01");
        run("20: 39/40 -1/40", inTurns(), ALL, 0, 0, 1);
    }

    /** The words 0 and 1 in turns, and 39 with both: a search for both of them begins again at every document. */
    private static PostingPlanner inTurns() {
        PostingPlanner planner = new PostingPlanner();
        for (int document = 0; document < 39; document++) {
            planner.put(document, 1 + document % 2);
        }
        planner.put(39, 3);
        return planner;
    }

    private void allAgreed() {
        run("1: 5/1 -1/2", Samples.with(5, 1), ALL, 0, 0);
        run("1: 5/2 -1/3", Samples.with(5, 1), ALL, 0, 0, -2);
        run("1: 0/2 -1/3", Samples.with(0, 1), ALL, 0, 0, -2);
        run("1: 39/2 -1/2", Samples.with(39, 1), ALL, 0, 0, -2);
        firstLeap("39/6", Samples.one(Samples.forty(63), ALL, 0, false, 0, 1, 2, 3, 4, 5), 39);
    }

    private void anySeeksAll() {
        run("1: 0/6 -1/7", Samples.with(0, 1), ANY, 0, 0, 1, 2, 3, 4, 5);
        run("1: 0/6 -1/7", Samples.with(0, 1), ANY, 0, 5, 4, 3, 2, 1, 0);
        runOfClauses("1: 0/5 -1/6", Samples.with(0, 1), ANY, 0, "01234");
        runOfClauses("1: 0/5 -1/6", Samples.with(0, 1), ANY, 0, "43210");
    }

    private void anyLeast() {
        run("3: 1/3 2/4 3/5 -1/6", Samples.with(3, 1, 2, 2, 1, 4), ANY, 0, 0, 1, 2);
        run("3: 1/3 2/4 3/5 -1/6", Samples.with(3, 1, 2, 2, 1, 4), ANY, 0, 2, 1, 0);
        runOfClauses("3: 1/3 2/4 3/5 -1/6", Samples.with(3, 1, 2, 2, 1, 4), ANY, 0, "012");
        run("0: -1/2", Samples.with(0, 0), ANY, 0, 0, 1);
        run("1: 39/2 -1/2", Samples.with(39, 2), ANY, 0, 0, 1);
    }

    private void someSeeksAll() {
        run("1: 0/6 -1/8", Samples.with(0, 3), SOME, 2, 0, 1, 2, 3, 4, 5);
        run("1: 0/6 -1/8", Samples.with(0, 3), SOME, 2, 5, 4, 3, 2, 1, 0);
        runOfClauses("1: 0/5 -1/7", Samples.with(0, 3), SOME, 2, "01234");
        runOfClauses("1: 0/5 -1/7", Samples.with(0, 3), SOME, 2, "43210");
    }

    private void someBeginsAgain() {
        run("3: 4/5 8/8 -1/10", Samples.with(0, 1, 2, 2, 4, 3, 6, 4, 8, 6), SOME, 2, 0, 1, 2);
        runOfClauses("3: 4/5 8/8 -1/10", Samples.with(0, 1, 2, 2, 4, 3, 6, 4, 8, 6), SOME, 2, "012");
        run("3: 5/11 7/16 -1/22", Samples.with(0, 15, 3, 16, 5, 31, 7, 63), SOME, 5, 0, 1, 2, 3, 4, 5);
        run("2: 1/3 3/5 -1/8", Samples.with(1, 1, 3, 3), SOME, 2, 0, 0, 1);
        run("1: 0/3 -1/5", Samples.with(0, 3, 9, 4), SOME, 2, 0, 1, 2);
        runOfClauses("2: 0/5 5/9 -1/14", Samples.with(0, 15, 5, 31), SOME, 4, "01234");
        run("20: 39/42 -1/42", inTurns(), SOME, 2, 0, 1, 2);
        runOfClauses("20: 39/42 -1/42", inTurns(), SOME, 2, "012");
    }

    private void someAtTheEnd() {
        run("0: -1/3", Samples.with(5, 1), SOME, 2, 0, 1, 2);
        runOfClauses("0: -1/3", Samples.with(5, 1), SOME, 2, "012");
        run("1: 38/3 -1/5", Samples.with(38, 3, 39, 1), SOME, 2, 0, 1, 2);
        run("1: 39/3 -1/3", Samples.with(39, 3), SOME, 2, 0, 1, 2);
        run("1: 39/4 -1/4", Samples.with(38, 1, 39, 3), SOME, 2, 2, 0, 1);
    }

    private void somePlace() {
        run("1: 4/3 -1/6", Samples.with(4, 7), SOME, 2, 0, 1, 2);
        run("1: 0/3 -1/6", Samples.with(0, 7), SOME, 2, 0, 1, 2);
        PostingPlanner planner = Samples.with(0, 8, 4, 11, 6, 8);
        Checks.clause(planner, SOME, 2, false, 0, 1, 2);
        Checks.clause(planner, ANY, 0, false, 3);
        checks.same("the run of an ALL with a SOME", Checks.wholeRun(planner), "1: 4/4 -1/6");
    }

    private void fixed(Sentences sentences) {
        sentences.test("- ALWAYS: the place is the least document from d on that is there, or the end;",
                this::alwaysPlaces);
        sentences.test("NEVER: the end.", this::neverPlaces);
        sentences.test("Nothing is read for these.", this::nothingRead);
    }

    private void alwaysPlaces() {
        PostingPlanner planner = Samples.with(0, 0, 5, 1, 39, 255);
        int[][] leaps = {{0, 0}, {1, 5}, {5, 5}, {6, 39}, {38, 39}, {39, 39}};
        for (int[] leap : leaps) {
            planner.begin();
            checks.same("leap(" + leap[0] + ") at first", planner.leap(leap[0]), leap[1]);
        }
        planner.drop(39);
        firstLeap("-1/0", planner, 6);
        firstLeap("-1/0", planner, 39);
        firstLeap("5/0", planner, 5);
        firstLeap("-1/0", new PostingPlanner(), 0);
        firstLeap("39/0", Samples.forty(0), 39);
    }

    private void neverPlaces() {
        PostingPlanner planner = Samples.asked(Samples.forty(255), ANY, 0, "");
        firstLeap("-1/0", planner, 0);
        firstLeap("-1/0", planner, 1);
        firstLeap("-1/0", planner, 39);
    }

    private void nothingRead() {
        runOfClauses("3: 0/0 5/0 39/0 -1/0", Samples.with(0, 0, 5, 1, 39, 255), ALL, 0, "AAAAA");
        runOfClauses("3: 0/0 5/0 39/0 -1/0", Samples.with(0, 0, 5, 1, 39, 255), ANY, 0, "012A");
        runOfClauses("3: 0/0 5/0 39/0 -1/0", Samples.with(0, 0, 5, 1, 39, 255), SOME, 1, "01A");
        runOfClauses("0: -1/0", Samples.with(0, 0, 5, 1, 39, 255), ALL, 0, "012N");
        runOfClauses("0: -1/0", Samples.with(0, 0, 5, 1, 39, 255), SOME, 4, "012");
        runOfClauses("2: 5/1 39/2 -1/2", Samples.with(0, 0, 5, 1, 39, 255), ALL, 0, "A0A");
    }
}
