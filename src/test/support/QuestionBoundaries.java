import java.util.Arrays;

/** The sentences of promises 6 to 10, and of the section on questions. */
final class QuestionBoundaries {
    private static final int ALL = Samples.ALL;
    private static final int ANY = Samples.ANY;
    private static final int SOME = Samples.SOME;
    private static final int LEAST = Samples.LEAST;
    private static final int MOST = Samples.MOST;
    private static final int[] NO_KINDS = {-1, 3, 4, LEAST, MOST};
    /** A kind, and a need that it cannot have in a question nor in a clause. */
    private static final int[][] NO_NEEDS = {{ALL, -1}, {ALL, 1}, {ALL, LEAST}, {ALL, MOST}, {ANY, -1}, {ANY, 1},
        {ANY, LEAST}, {ANY, MOST}, {SOME, -1}, {SOME, 0}, {SOME, LEAST}, {SOME, MOST}};

    private final Checks checks;

    QuestionBoundaries(Checks checks) {
        this.checks = checks;
    }

    void test(Sentences sentences) {
        parts(sentences);
        literals(sentences);
        clauses(sentences);
        ask(sentences);
        clause(sentences);
        literal(sentences);
        matches(sentences);
        hits(sentences);
    }

    private void parts(Sentences sentences) {
        sentences.in("Questions", "promises 6 to 8 (Questions)");
        sentences.test("A question has a kind, ALL, ANY or SOME,", this::questionKinds);
        sentences.test("and clauses, numbered from 0, at most 5;", this::questionClauses);
        sentences.test("SOME has a need, too.", this::questionNeeds);
        sentences.test("A clause has a kind, perhaps a need, likewise,", this::clauseKindsAndNeeds);
        sentences.test("is negated or not,", this::clauseNegatedOrNot);
        sentences.test("and has literals, at most 6.", this::clauseLiterals);
    }

    private void questionKinds() {
        PostingPlanner planner = new PostingPlanner();
        checks.same("ask(ALL, 0)", planner.ask(ALL, 0), 0);
        checks.same("ask(ANY, 0)", planner.ask(ANY, 0), 0);
        checks.same("ask(SOME, 1)", planner.ask(SOME, 1), 0);
        for (int kind : NO_KINDS) {
            checks.throwsArgument("ask(" + kind + ", 0)", () -> planner.ask(kind, 0));
            checks.throwsArgument("ask(" + kind + ", 1)", () -> planner.ask(kind, 1));
        }
    }

    private void questionClauses() {
        PostingPlanner planner = new PostingPlanner();
        for (int number = 0; number < 5; number++) {
            int none = number;
            checks.throwsIndex("literal before clause " + number, () -> planner.literal(none, 0, false));
            checks.same("clause " + number, planner.clause(ANY, 0, false), number);
            checks.same("literal of clause " + number, planner.literal(number, 0, false), 1);
        }
        checks.throwsState("a sixth clause", () -> planner.clause(ANY, 0, false));
        checks.throwsIndex("literal of clause -1", () -> planner.literal(-1, 0, false));
        checks.throwsIndex("literal of clause 5", () -> planner.literal(5, 0, false));
    }

    private void questionNeeds() {
        for (int need = 1; need <= 5; need++) {
            PostingPlanner planner = Samples.asked(Samples.with(3, 1), SOME, need, "00000".substring(0, need));
            checks.same("matches by " + need + " true clauses, need " + need, planner.matches(3), true);
            Samples.asked(planner, SOME, need, "00000".substring(0, need - 1) + "1");
            checks.same("matches by one true clause less, need " + need, planner.matches(3), false);
        }
    }

    private void clauseKindsAndNeeds() {
        PostingPlanner planner = new PostingPlanner();
        checks.same("clause(ALL, 0)", planner.clause(ALL, 0, false), 0);
        checks.same("clause(ANY, 0)", planner.clause(ANY, 0, true), 1);
        checks.same("clause(SOME, 1)", planner.clause(SOME, 1, false), 2);
        checks.same("clause(SOME, 6)", planner.clause(SOME, 6, true), 3);
        for (int kind : NO_KINDS) {
            checks.throwsArgument("clause(" + kind + ", 0)", () -> planner.clause(kind, 0, false));
            checks.throwsArgument("clause(" + kind + ", 1)", () -> planner.clause(kind, 1, true));
        }
        for (int need = 1; need <= 6; need++) {
            int[] literals = {0, 0, 0, 0, 0, 0};
            Samples.one(planner, SOME, need, false, Arrays.copyOf(literals, need));
            planner.put(3, 1);
            checks.same("matches by " + need + " true literals, need " + need, planner.matches(3), true);
            Samples.one(planner, SOME, need, false, Arrays.copyOf(literals, need - 1));
            checks.same("matches by one true literal less, need " + need, planner.matches(3), false);
        }
    }

    private void clauseNegatedOrNot() {
        PostingPlanner planner = Samples.with(3, 1, 4, 2);
        Samples.one(planner, ALL, 0, false, 0);
        checks.same("matching a clause that is not negated", Checks.matching(planner), "3");
        Samples.one(planner, ALL, 0, true, 0);
        checks.same("matching a negated clause", Checks.matching(planner), "4");
    }

    private void clauseLiterals() {
        PostingPlanner planner = new PostingPlanner();
        planner.clause(ALL, 0, false);
        planner.clause(ALL, 0, false);
        for (int size = 1; size <= 6; size++) {
            checks.same("literal " + size + " of clause 1", planner.literal(1, size, false), size);
        }
        checks.throwsState("a seventh literal", () -> planner.literal(1, 0, false));
        checks.same("a literal of the clause beside a full one", planner.literal(0, 0, false), 1);
    }

    private void literals(Sentences sentences) {
        sentences.in("Questions", "promises 8 to 10 (Questions)");
        sentences.test("A literal is a word, negated or not.", this::literalNegatedOrNot);
        sentences.test("A literal is true of a document that is there if it has the word;", this::literalTrue);
        sentences.test("a negated one, if it does not have it.", this::negatedLiteralTrue);
    }

    private void literalNegatedOrNot() {
        for (int word : new int[] {0, 7}) {
            PostingPlanner planner = Samples.with(3, 1 << word, 4, 255 - (1 << word));
            Samples.one(planner, ANY, 0, false, word);
            checks.same("matching the word " + word, Checks.matching(planner), "3");
            checks.same("literalAt(0, 0)", planner.literalAt(0, 0), 2 * word);
            Samples.one(planner, ANY, 0, false, -word - 1);
            checks.same("matching not the word " + word, Checks.matching(planner), "4");
            checks.same("literalAt(0, 0)", planner.literalAt(0, 0), 2 * word + 1);
        }
    }

    private void literalTrue() {
        for (int word = 0; word < 8; word++) {
            PostingPlanner planner = Samples.with(0, 0, 1, 1 << word, 38, 255 - (1 << word), 39, 255, 20, 255);
            planner.drop(20);
            Samples.one(planner, ANY, 0, false, word);
            checks.same("matching the word " + word, Checks.matching(planner), "1 39");
        }
    }

    private void negatedLiteralTrue() {
        for (int word = 0; word < 8; word++) {
            PostingPlanner planner = Samples.with(0, 0, 1, 1 << word, 38, 255 - (1 << word), 39, 255, 20, 0);
            planner.drop(20);
            Samples.one(planner, ANY, 0, false, -word - 1);
            checks.same("matching not the word " + word, Checks.matching(planner), "0 38");
        }
    }

    private void clauses(Sentences sentences) {
        sentences.in("Questions", "promises 9 and 10 (Questions)");
        sentences.test("A clause ALL is true if all of its literals are", this::clauseAll);
        sentences.test("(without literals it is true)", this::clauseAllEmpty);
        sentences.test("ANY if some literal is", this::clauseAny);
        sentences.test("(without literals it is not true)", this::clauseAnyEmpty);
        sentences.test("SOME if as many of its literals as its need, or more, are;", this::clauseSome);
        sentences.test("each literal counts, also one that is there twice.", this::clauseSomeTwice);
        sentences.test("A negated clause is true if it would not be true without that.", this::clauseNegated);
        sentences.test("The question is true by its clauses in the same way.", this::questionTrue);
        sentences.test("A document matches if it is there and the question is true of it.", this::documentMatches);
    }

    /** Documents 0 to 6, each with so many words, the least ones. */
    private static PostingPlanner staircase() {
        return Samples.with(0, 0, 1, 1, 2, 3, 3, 7, 4, 15, 5, 31, 6, 63);
    }

    private void matching(String due, int kind, int need, boolean isNegated, int... literals) {
        PostingPlanner planner = Samples.one(staircase(), kind, need, isNegated, literals);
        String what = "matching kind " + kind + ", need " + need + (isNegated ? ", negated, of " : ", of ")
                + Arrays.toString(literals);
        checks.same(what, Checks.matching(planner), due);
    }

    private void clauseAll() {
        matching("6", ALL, 0, false, 0, 1, 2, 3, 4, 5);
        matching("5 6", ALL, 0, false, 0, 1, 2, 3, 4);
        matching("5", ALL, 0, false, 0, 1, 2, 3, 4, -6);
        matching("1 2 3 4 5 6", ALL, 0, false, 0);
        matching("", ALL, 0, false, 0, 1, 2, 3, 4, 6);
    }

    private void clauseAllEmpty() {
        matching("0 1 2 3 4 5 6", ALL, 0, false);
        matching("", ALL, 0, false, 7);
    }

    private void clauseAny() {
        matching("1 2 3 4 5 6", ANY, 0, false, 5, 4, 3, 2, 1, 0);
        matching("6", ANY, 0, false, 7, 6, 5, 7, 6, 7);
        matching("6", ANY, 0, false, 5);
        matching("", ANY, 0, false, 6, 7);
        matching("0", ANY, 0, false, -1);
    }

    private void clauseAnyEmpty() {
        matching("", ANY, 0, false);
        matching("0 1 2 3 4 5 6", ANY, 0, false, -8);
    }

    private void clauseSome() {
        String[] due = {"1 2 3 4 5 6", "2 3 4 5 6", "3 4 5 6", "4 5 6", "5 6", "6"};
        for (int need = 1; need <= 6; need++) {
            matching(due[need - 1], SOME, need, false, 0, 1, 2, 3, 4, 5);
        }
        matching("6", SOME, 6, false, 5, 4, 3, 2, 1, 0);
        matching("", SOME, 6, false, 0, 1, 2, 3, 4);
        matching("5 6", SOME, 5, false, 0, 1, 2, 3, 4);
        matching("", SOME, 1, false);
        matching("", SOME, 6, false);
    }

    private void clauseSomeTwice() {
        matching("1 2 3 4 5 6", SOME, 2, false, 0, 0);
        matching("", SOME, 3, false, 0, 0);
        matching("1 2 3 4 5 6", SOME, 6, false, 0, 0, 0, 0, 0, 0);
        matching("2 3 4 5 6", SOME, 2, false, 0, 1, 7);
        matching("1 2 3 4 5 6", SOME, 2, false, 0, 1, 0);
        matching("0", SOME, 2, false, -1, 5, -1);
    }

    private void clauseNegated() {
        matching("", ALL, 0, true);
        matching("0 1 2 3 4 5 6", ANY, 0, true);
        matching("0 1 2 3 4 5 6", SOME, 1, true);
        matching("0 1 2 3 4 5 6", SOME, 6, true);
        matching("0 1 2 3 4 5", ALL, 0, true, 0, 1, 2, 3, 4, 5);
        matching("0", ANY, 0, true, 0, 1, 2, 3, 4, 5);
        String[] due = {"0", "0 1", "0 1 2", "0 1 2 3", "0 1 2 3 4", "0 1 2 3 4 5"};
        for (int need = 1; need <= 6; need++) {
            matching(due[need - 1], SOME, need, true, 0, 1, 2, 3, 4, 5);
        }
        matching("0 1 2 3 4 5 6", SOME, 6, true, 0, 1, 2, 3, 4);
        matching("0", SOME, 2, true, 0, 0);
        matching("1 2 3 4 5 6", ALL, 0, true, -1);
    }

    private void question(String due, int kind, int need, String clauses) {
        PostingPlanner planner = Samples.asked(staircase(), kind, need, clauses);
        checks.same("matching question kind " + kind + ", need " + need + ", of " + clauses,
                Checks.matching(planner), due);
    }

    private void questionTrue() {
        String all = "0 1 2 3 4 5 6";
        question(all, ALL, 0, "");
        question("", ANY, 0, "");
        question("", SOME, 1, "");
        question("5 6", ALL, 0, "01234");
        question("", ALL, 0, "01237");
        question("1 2 3 4 5 6", ANY, 0, "43210");
        question("5 6", ANY, 0, "77774");
        question("", ANY, 0, "67676");
        String[] due = {"1 2 3 4 5 6", "2 3 4 5 6", "3 4 5 6", "4 5 6", "5 6"};
        for (int need = 1; need <= 5; need++) {
            question(due[need - 1], SOME, need, "01234");
        }
        question("", SOME, 5, "0123");
        question("4 5 6", SOME, 4, "0123");
        question("1 2 3 4 5 6", SOME, 2, "00");
        question("1 2 3 4 5 6", SOME, 5, "00000");
        question("", SOME, 3, "00");
        question(all, SOME, 5, "AAAAA");
        question("1 2 3 4 5 6", SOME, 5, "AAAA0");
        question("", SOME, 5, "AAAAN");
    }

    private void documentMatches() {
        PostingPlanner planner = Samples.with(0, 0, 39, 255);
        checks.same("matching all, when two are there", Checks.matching(planner), "0 39");
        planner.drop(39);
        checks.same("matching all, when one was dropped", Checks.matching(planner), "0");
        Samples.one(planner, ALL, 0, false, -1, -2, -3, -4, -5, -8);
        checks.same("matching contraries, which are not true of one that is not there", Checks.matching(planner), "0");
        Samples.one(planner, ANY, 0, true, 0, 7);
        checks.same("matching a negated clause", Checks.matching(planner), "0");
        planner.drop(0);
        checks.same("matching when none is there", Checks.matching(planner), "");
        planner.put(39, 1);
        checks.same("matching when one is there of which it is not true", Checks.matching(planner), "");
    }

    private void ask(Sentences sentences) {
        sentences.in(6);
        sentences.test("`int ask(int kind, int need) throws IllegalArgumentException`: Puts a new question, without "
                + "clauses.", this::askWithoutClauses);
        sentences.test("- `kind`: ALL, ANY or SOME", this::questionKinds);
        sentences.test("- `need`: 1 to 5 for SOME, 0 for others", this::askNeeds);
        sentences.test("Returns how many clauses the question before had.", this::askAnswers);
        sentences.test("Throws `IllegalArgumentException` if kind or need is out of range", this::askRefused);
    }

    private void askWithoutClauses() {
        for (int kind = ALL; kind <= SOME; kind++) {
            PostingPlanner planner = Samples.full().made.get();
            planner.ask(kind, kind == SOME ? 1 : 0);
            checks.same("hits() without clauses", planner.hits(), kind == ALL ? 40 : 0);
            checks.throwsIndex("literal of clause 0", () -> planner.literal(0, 0, false));
            for (int number = 0; number < 5; number++) {
                checks.same("clause", planner.clause(ALL, 0, false), number);
                checks.same("its first literal", planner.literal(number, 7, true), 1);
            }
        }
    }

    private void askNeeds() {
        PostingPlanner planner = new PostingPlanner();
        checks.same("ask(SOME, 1)", planner.ask(SOME, 1), 0);
        checks.same("ask(SOME, 5)", planner.ask(SOME, 5), 0);
        checks.same("ask(ALL, 0)", planner.ask(ALL, 0), 0);
        checks.same("ask(ANY, 0)", planner.ask(ANY, 0), 0);
        checks.throwsArgument("ask(SOME, 6)", () -> planner.ask(SOME, 6));
        for (int[] wrong : NO_NEEDS) {
            checks.throwsArgument("ask(" + wrong[0] + ", " + wrong[1] + ")", () -> planner.ask(wrong[0], wrong[1]));
        }
    }

    private void askAnswers() {
        PostingPlanner planner = new PostingPlanner();
        checks.same("ask() at first", planner.ask(SOME, 5), 0);
        for (int clauses = 0; clauses <= 5; clauses++) {
            for (int number = 0; number < clauses; number++) {
                planner.clause(ANY, 0, false);
            }
            checks.throwsArgument("a refused ask()", () -> planner.ask(SOME, 6));
            checks.same("ask() after " + clauses + " clauses", planner.ask(ALL, 0), clauses);
            checks.same("ask() again", planner.ask(ANY, 0), 0);
        }
        for (int number = 0; number < 5; number++) {
            planner.clause(ALL, 0, false);
        }
        checks.throwsState("a sixth clause", () -> planner.clause(ALL, 0, false));
        checks.same("ask() after a sixth clause was refused", planner.ask(ALL, 0), 5);
    }

    private void askRefused() {
        for (int kind : NO_KINDS) {
            checks.refusedArgument("ask(" + kind + ", 0)", p -> p.ask(kind, 0), Samples.all());
            checks.refusedArgument("ask(" + kind + ", 6)", p -> p.ask(kind, 6), Samples.all());
        }
        for (int[] wrong : NO_NEEDS) {
            checks.refusedArgument("ask(" + wrong[0] + ", " + wrong[1] + ")", p -> p.ask(wrong[0], wrong[1]),
                    Samples.all());
        }
        checks.refusedArgument("ask(SOME, 6)", p -> p.ask(SOME, 6), Samples.all());
    }

    private void clause(Sentences sentences) {
        sentences.in(7);
        sentences.test("`int clause(int kind, int need, boolean isNegated) throws IllegalArgumentException, "
                + "IllegalStateException`: Adds a clause to the question.", this::clauseAdded);
        sentences.test("- `kind`: ALL, ANY or SOME", this::clauseKindsAndNeeds);
        sentences.test("- `need`: 1 to 6 for SOME, 0 for others", this::clauseNeeds);
        sentences.test("- `isNegated`: whether it is negated", this::clauseNegatedOrNot);
        sentences.test("Returns its number.", this::clauseNumbers);
        sentences.test("Throws `IllegalArgumentException` if kind or need is out of range", this::clauseRefused);
        sentences.test("Throws `IllegalStateException` if there are 5", this::clauseSixth);
    }

    private void clauseAdded() {
        PostingPlanner planner = Samples.with(0, 1, 39, 128);
        planner.ask(ANY, 0);
        checks.same("matching without clauses", Checks.matching(planner), "");
        Checks.clause(planner, ANY, 0, false, 0);
        checks.same("matching one clause", Checks.matching(planner), "0");
        Checks.clause(planner, ANY, 0, false, 3);
        Checks.clause(planner, ANY, 0, false, 4);
        Checks.clause(planner, ANY, 0, false, 5);
        checks.same("matching four clauses", Checks.matching(planner), "0");
        planner.clause(ALL, 0, false);
        checks.same("matching a fifth clause, true of all", Checks.matching(planner), "0 39");
        checks.same("clauses of the question", planner.ask(ALL, 0), 5);
    }

    private void clauseNeeds() {
        PostingPlanner planner = new PostingPlanner();
        checks.same("clause(SOME, 1)", planner.clause(SOME, 1, false), 0);
        checks.same("clause(SOME, 6)", planner.clause(SOME, 6, false), 1);
        checks.same("clause(ALL, 0)", planner.clause(ALL, 0, false), 2);
        checks.same("clause(ANY, 0)", planner.clause(ANY, 0, false), 3);
        checks.throwsArgument("clause(SOME, 7)", () -> planner.clause(SOME, 7, false));
        for (int[] wrong : NO_NEEDS) {
            checks.throwsArgument("clause(" + wrong[0] + ", " + wrong[1] + ")",
                    () -> planner.clause(wrong[0], wrong[1], false));
        }
    }

    private void clauseNumbers() {
        PostingPlanner planner = new PostingPlanner();
        for (int round = 0; round < 2; round++) {
            for (int number = 0; number < 5; number++) {
                checks.throwsArgument("a refused clause()", () -> planner.clause(SOME, 0, false));
                checks.same("clause()", planner.clause(SOME, 6, true), number);
            }
            checks.throwsState("a sixth clause", () -> planner.clause(ALL, 0, false));
            planner.ask(ANY, 0);
        }
    }

    private void clauseRefused() {
        for (int kind : NO_KINDS) {
            checks.refusedArgument("clause(" + kind + ", 0)", p -> p.clause(kind, 0, false), Samples.all());
            checks.refusedArgument("clause(" + kind + ", 7)", p -> p.clause(kind, 7, true), Samples.all());
        }
        for (int[] wrong : NO_NEEDS) {
            checks.refusedArgument("clause(" + wrong[0] + ", " + wrong[1] + ")",
                    p -> p.clause(wrong[0], wrong[1], true), Samples.all());
        }
        checks.refusedArgument("clause(SOME, 7)", p -> p.clause(SOME, 7, false), Samples.all());
    }

    private void clauseSixth() {
        checks.refusedState("a sixth clause ALL", p -> p.clause(ALL, 0, false), Samples.full());
        checks.refusedState("a sixth clause ANY", p -> p.clause(ANY, 0, true), Samples.full());
        checks.refusedState("a sixth clause SOME 1", p -> p.clause(SOME, 1, false), Samples.full());
        checks.refusedState("a sixth clause SOME 6", p -> p.clause(SOME, 6, false), Samples.full());
        PostingPlanner planner = Samples.idle().made.get();
        checks.same("a fourth clause", planner.clause(ALL, 0, false), 3);
        checks.same("a fifth clause", planner.clause(ALL, 0, false), 4);
        checks.throwsState("a sixth clause", () -> planner.clause(ALL, 0, false));
    }

    private void literal(Sentences sentences) {
        sentences.in(8);
        sentences.test("`int literal(int clause, int word, boolean isNegated) throws IndexOutOfBoundsException, "
                + "IllegalStateException`: Adds a literal to a clause.", this::literalAdded);
        sentences.test("- `clause`: a clause", this::literalClauses);
        sentences.test("- `word`: 0 to 7", this::literalWords);
        sentences.test("- `isNegated`: whether it is negated", this::literalNegatedOrNot);
        sentences.test("Returns how many literals the clause has then.", this::literalAnswers);
        sentences.test("Throws `IndexOutOfBoundsException` if there is no such clause or word", this::literalRefused);
        sentences.test("Throws `IllegalStateException` if the clause has 6", this::literalSeventh);
    }

    private void literalAdded() {
        PostingPlanner planner = Samples.with(0, 1, 39, 128);
        planner.clause(ANY, 0, false);
        planner.clause(ALL, 0, false);
        checks.same("matching an ANY without literals", Checks.matching(planner), "");
        for (int word = 2; word < 7; word++) {
            planner.literal(0, word, false);
        }
        checks.same("matching an ANY of five that none has", Checks.matching(planner), "");
        planner.literal(0, 7, false);
        checks.same("matching an ANY, a sixth literal", Checks.matching(planner), "39");
        planner.literal(1, 7, true);
        checks.same("matching, a literal of another clause", Checks.matching(planner), "");
    }

    private void literalClauses() {
        for (int clauses = 0; clauses <= 5; clauses++) {
            PostingPlanner planner = Samples.asked(new PostingPlanner(), ALL, 0, "AAAAA".substring(0, clauses));
            for (int number = 0; number < clauses; number++) {
                checks.same("literal of clause " + number, planner.literal(number, 0, false), 1);
            }
            for (int none : new int[] {-1, clauses, 5, LEAST, MOST}) {
                checks.throwsIndex("literal of clause " + none + " of " + clauses,
                        () -> planner.literal(none, 0, false));
            }
        }
    }

    private void literalWords() {
        for (int word : new int[] {0, 1, 6, 7}) {
            PostingPlanner planner = Samples.with(0, 1 << word);
            planner.clause(ALL, 0, false);
            checks.same("literal(0, " + word + ")", planner.literal(0, word, false), 1);
            checks.same("literalAt(0, 0)", planner.literalAt(0, 0), 2 * word);
            checks.same("matches(0)", planner.matches(0), true);
        }
        for (int none : Samples.NO_WORDS) {
            PostingPlanner planner = Samples.asked(new PostingPlanner(), ALL, 0, "A");
            checks.throwsIndex("literal(0, " + none + ")", () -> planner.literal(0, none, false));
            checks.throwsIndex("negated literal(0, " + none + ")", () -> planner.literal(0, none, true));
        }
    }

    private void literalAnswers() {
        PostingPlanner planner = Samples.asked(new PostingPlanner(), ALL, 0, "AAAAA");
        for (int size = 1; size <= 6; size++) {
            checks.throwsIndex("a refused literal", () -> planner.literal(0, 8, false));
            checks.same("literal of clause 0, the same", planner.literal(0, 0, false), size);
            checks.same("literal of clause 4, contraries", planner.literal(4, 7, size % 2 == 0), size);
        }
        checks.throwsState("a seventh literal", () -> planner.literal(0, 0, false));
        checks.same("the first literal of another clause", planner.literal(1, 0, false), 1);
        planner.ask(ALL, 0);
        planner.clause(ALL, 0, false);
        checks.same("the first literal of a new question", planner.literal(0, 0, false), 1);
    }

    private void literalRefused() {
        for (int none : new int[] {-1, 5, LEAST, MOST}) {
            checks.refusedIndex("literal(" + none + ", 0)", p -> p.literal(none, 0, false), Samples.all());
            checks.refusedIndex("literal(" + none + ", 7)", p -> p.literal(none, 7, true), Samples.all());
        }
        checks.refusedIndex("literal(0, 0)", p -> p.literal(0, 0, false), Samples.fresh());
        checks.refusedIndex("literal(3, 0)", p -> p.literal(3, 0, false), Samples.idle(), Samples.busy());
        for (int none : Samples.NO_WORDS) {
            checks.refusedIndex("literal(0, " + none + ")", p -> p.literal(0, none, false), Samples.all());
            checks.refusedIndex("literal(2, " + none + ")", p -> p.literal(2, none, true), Samples.all());
            checks.refusedIndex("literal(4, " + none + ")", p -> p.literal(4, none, true), Samples.all());
        }
    }

    private void literalSeventh() {
        for (int clause = 0; clause < 5; clause++) {
            int full = clause;
            checks.refusedState("literal(" + clause + ", 0)", p -> p.literal(full, 0, false), Samples.full());
            checks.refusedState("literal(" + clause + ", 7)", p -> p.literal(full, 7, true), Samples.full());
        }
        PostingPlanner planner = Samples.idle().made.get();
        checks.same("a fourth literal", planner.literal(1, 5, false), 4);
        checks.same("a fifth literal", planner.literal(1, 5, false), 5);
        checks.same("a sixth literal", planner.literal(1, 5, false), 6);
        checks.throwsState("a seventh literal", () -> planner.literal(1, 5, false));
    }

    private void matches(Sentences sentences) {
        sentences.in(9);
        sentences.test("`boolean matches(int document) throws IndexOutOfBoundsException`: Returns whether a document "
                + "matches, by the question as it was told.", this::matchesAsTold);
        sentences.test("- `document`: 0 to 39", this::matchesDocuments);
        sentences.test("Returns whether it does.", this::documentMatches);
        sentences.test("Throws `IndexOutOfBoundsException` if there is no such document", this::matchesRefused);
    }

    private void matchesAsTold() {
        PostingPlanner planner = Samples.with(0, 1, 39, 128);
        planner.ask(SOME, 1);
        checks.same("matching, no clause told", Checks.matching(planner), "");
        planner.clause(SOME, 2, true);
        checks.same("matching, a clause told", Checks.matching(planner), "0 39");
        planner.literal(0, 0, false);
        checks.same("matching, one literal told", Checks.matching(planner), "0 39");
        planner.literal(0, 0, false);
        checks.same("matching, the same literal told twice", Checks.matching(planner), "39");
        planner.begin();
        planner.ask(ALL, 0);
        checks.same("matching, a new question told amid a run", Checks.matching(planner), "0 39");
    }

    private void matchesDocuments() {
        PostingPlanner planner = Samples.with(0, 1, 1, 1, 38, 1, 39, 1);
        for (int document : new int[] {0, 1, 38, 39}) {
            checks.same("matches(" + document + ")", planner.matches(document), true);
        }
        checks.same("matches(2)", planner.matches(2), false);
        checks.same("matches(37)", planner.matches(37), false);
        for (int none : Samples.NO_DOCUMENTS) {
            checks.throwsIndex("matches(" + none + ")", () -> planner.matches(none));
        }
    }

    private void matchesRefused() {
        for (int none : Samples.NO_DOCUMENTS) {
            checks.refusedIndex("matches(" + none + ")", p -> p.matches(none), Samples.all());
        }
    }

    private void hits(Sentences sentences) {
        sentences.in(10);
        sentences.test("`int hits()`: Returns how many documents match.", this::hitsNoneToForty);
    }

    private void hitsNoneToForty() {
        checks.same("hits() of no documents", new PostingPlanner().hits(), 0);
        PostingPlanner planner = Samples.one(Samples.forty(1), ANY, 0, false, 0);
        checks.same("hits() of all", planner.hits(), 40);
        planner.drop(0);
        checks.same("hits(), the first one dropped", planner.hits(), 39);
        planner.put(39, 254);
        checks.same("hits(), the last one without the word", planner.hits(), 38);
        Samples.one(planner, ANY, 0, false, -1);
        checks.same("hits() of the contrary, which is not true of one that is not there", planner.hits(), 1);
        Samples.one(planner, ANY, 0, false);
        checks.same("hits() of a question that is true of none", planner.hits(), 0);
    }
}
