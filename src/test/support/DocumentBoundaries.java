/** The sentences of promises 1 to 5, and of the terms that stand behind them. */
final class DocumentBoundaries {
    private final Checks checks;

    DocumentBoundaries(Checks checks) {
        this.checks = checks;
    }

    void test(Sentences sentences) {
        terms(sentences);
        newObject(sentences);
        put(sentences);
        drop(sentences);
        documents(sentences);
        count(sentences);
    }

    private void terms(Sentences sentences) {
        sentences.in("Terms", "promises 2 to 10 and 20");
        sentences.withoutPromise("The calls lay documents in, put questions, and run them.");
        sentences.test("The documents are 0 to 39,", this::allDocuments);
        sentences.test("the words 0 to 7.", this::allWords);
        sentences.test("A document is there or not; one that is there has some of the words.", this::noneAndAllOfTheWords);
    }

    private void allDocuments() {
        PostingPlanner planner = new PostingPlanner();
        for (int document = 0; document < 40; document++) {
            checks.same("matches before put, " + document, planner.matches(document), false);
            checks.same("put " + document, planner.put(document, 1), false);
            checks.same("matches after put, " + document, planner.matches(document), true);
            checks.same("documents after put, " + document, planner.documents(), document + 1);
        }
        planner.begin();
        checks.same("leap(0)", planner.leap(0), 0);
        checks.same("leap(39)", planner.leap(39), 39);
        checks.same("drop(0)", planner.drop(0), true);
        checks.same("drop(39)", planner.drop(39), true);
        for (int none : Samples.NO_DOCUMENTS) {
            checks.throwsIndex("put " + none, () -> planner.put(none, 1));
            checks.throwsIndex("drop " + none, () -> planner.drop(none));
            checks.throwsIndex("matches " + none, () -> planner.matches(none));
            checks.throwsIndex("leap " + none, () -> planner.leap(none));
        }
    }

    private void allWords() {
        PostingPlanner planner = new PostingPlanner();
        for (int word = 0; word < 8; word++) {
            planner.put(word, 1 << word);
            checks.same("count(" + word + ")", planner.count(word), 1);
            planner.ask(Samples.ALL, 0);
            planner.clause(Samples.ANY, 0, false);
            checks.same("literal of the word " + word, planner.literal(0, word, false), 1);
            checks.same("matching the word " + word, Checks.matching(planner), Integer.toString(word));
        }
        for (int none : Samples.NO_WORDS) {
            checks.throwsIndex("count " + none, () -> planner.count(none));
            checks.throwsIndex("literal of " + none, () -> planner.literal(0, none, false));
            checks.throwsIndex("negated literal of " + none, () -> planner.literal(0, none, true));
        }
    }

    private void noneAndAllOfTheWords() {
        for (int word = 0; word < 8; word++) {
            PostingPlanner planner = Samples.with(0, 0, 39, 255);
            checks.same("documents()", planner.documents(), 2);
            checks.same("matching an ALL without clauses", Checks.matching(planner), "0 39");
            checks.same("count(" + word + ")", planner.count(word), 1);
            Samples.one(planner, Samples.ANY, 0, false, word);
            checks.same("matching the word " + word, Checks.matching(planner), "39");
            Samples.one(planner, Samples.ANY, 0, false, -word - 1);
            checks.same("matching not the word " + word, Checks.matching(planner), "0");
            checks.same("drop(0), there without words", planner.drop(0), true);
            checks.same("drop(0), not there", planner.drop(0), false);
        }
    }

    private void newObject(Sentences sentences) {
        sentences.in(1);
        sentences.test("`PostingPlanner()`: No documents are there", this::newWithoutDocuments);
        sentences.test("the question is ALL, without clauses", this::newQuestion);
        sentences.test("no run", this::newWithoutRun);
    }

    private void newWithoutDocuments() {
        PostingPlanner planner = new PostingPlanner();
        new PostingPlanner().put(0, 255);
        checks.same("documents()", planner.documents(), 0);
        checks.same("hits()", planner.hits(), 0);
        checks.same("estimate()", planner.estimate(), 0);
        for (int word = 0; word < 8; word++) {
            checks.same("count(" + word + ")", planner.count(word), 0);
        }
        checks.same("matching", Checks.matching(planner), "");
        for (int document = 0; document < 40; document++) {
            checks.same("drop(" + document + ")", planner.drop(document), false);
        }
    }

    private void newQuestion() {
        PostingPlanner planner = Samples.with(0, 0, 39, 255);
        checks.same("matching", Checks.matching(planner), "0 39");
        checks.same("the plan", Checks.plan(planner), "ALWAYS/0~2[]");
        checks.throwsIndex("literal of a clause 0", () -> planner.literal(0, 0, false));
        checks.same("the first clause", planner.clause(Samples.ANY, 0, true), 0);
        checks.same("the second clause", planner.clause(Samples.ANY, 0, false), 1);
        checks.same("matching one true clause and one that is not", Checks.matching(planner), "");
        checks.same("clauses of it", planner.ask(Samples.ALL, 0), 2);
        checks.same("clauses of a new one", new PostingPlanner().ask(Samples.ALL, 0), 0);
    }

    private void newWithoutRun() {
        PostingPlanner planner = new PostingPlanner();
        new PostingPlanner().begin();
        checks.throwsState("readings()", planner::readings);
        checks.throwsState("next()", planner::next);
        checks.throwsState("leap(0)", () -> planner.leap(0));
        checks.throwsState("leap(39)", () -> planner.leap(39));
    }

    private void put(Sentences sentences) {
        sentences.in(2);
        sentences.test("`boolean put(int document, int words) throws IndexOutOfBoundsException, "
                + "IllegalArgumentException`: Lays a document in, in place of what it was.", this::putInPlace);
        sentences.test("- `document`: 0 to 39", this::putDocuments);
        sentences.test("- `words`: 0 to 255:", this::putWords);
        sentences.test("the sum of 2 to the power of each of its words", this::putSums);
        sentences.test("Returns whether it was there.", this::putAnswers);
        sentences.test("Throws `IndexOutOfBoundsException` if there is no such document", this::putNoDocument);
        sentences.test("Throws `IllegalArgumentException` if words is out of range", this::putNoWords);
    }

    private void putInPlace() {
        for (int document : new int[] {0, 39}) {
            PostingPlanner planner = new PostingPlanner();
            planner.put(document, 255);
            planner.put(document, 0);
            checks.same("documents(), one put twice", planner.documents(), 1);
            for (int word = 0; word < 8; word++) {
                checks.same("count(" + word + "), no words in place of all", planner.count(word), 0);
            }
            planner.put(document, 255);
            for (int word = 0; word < 8; word++) {
                checks.same("count(" + word + "), all words in place of none", planner.count(word), 1);
            }
            planner.put(document, 128);
            planner.put(document, 1);
            checks.same("count(7), the word 0 in place of it", planner.count(7), 0);
            checks.same("count(0), in place of the word 7", planner.count(0), 1);
        }
    }

    private void putDocuments() {
        for (int document : new int[] {0, 1, 38, 39}) {
            PostingPlanner planner = new PostingPlanner();
            checks.same("put(" + document + ", 3)", planner.put(document, 3), false);
            checks.same("matching", Checks.matching(planner), Integer.toString(document));
        }
        for (int none : Samples.NO_DOCUMENTS) {
            checks.throwsIndex("put(" + none + ", 3)", () -> new PostingPlanner().put(none, 3));
        }
    }

    private void putWords() {
        for (int words : new int[] {0, 1, 254, 255}) {
            PostingPlanner planner = new PostingPlanner();
            checks.same("put(5, " + words + ")", planner.put(5, words), false);
            checks.same("documents()", planner.documents(), 1);
            checks.same("count(0)", planner.count(0), words % 2);
            checks.same("count(7)", planner.count(7), words / 128);
        }
        for (int words : new int[] {-1, 256, -256, Samples.LEAST, Samples.MOST}) {
            checks.throwsArgument("put(5, " + words + ")", () -> new PostingPlanner().put(5, words));
        }
    }

    private void putSums() {
        for (int word = 0; word < 8; word++) {
            PostingPlanner planner = Samples.with(0, 1 << word, 39, 255 - (1 << word));
            for (int other = 0; other < 8; other++) {
                checks.same("count(" + other + ")", planner.count(other), 1);
                Samples.one(planner, Samples.ALL, 0, false, other);
                checks.same("matching the word " + other + ", document 0 having " + word + " alone",
                        Checks.matching(planner), other == word ? "0" : "39");
            }
        }
    }

    private void putAnswers() {
        for (int document : new int[] {0, 39}) {
            PostingPlanner planner = new PostingPlanner();
            checks.throwsArgument("put of wrong words", () -> planner.put(document, 256));
            checks.same("put, refused before", planner.put(document, 0), false);
            checks.same("put again, there without words", planner.put(document, 0), true);
            checks.same("put again", planner.put(document, 255), true);
            planner.drop(document);
            checks.same("put after drop", planner.put(document, 255), false);
            checks.same("put of a neighbour", planner.put(document == 0 ? 1 : 38, 255), false);
        }
    }

    private void putNoDocument() {
        for (int none : Samples.NO_DOCUMENTS) {
            checks.refusedIndex("put(" + none + ", 0)", p -> p.put(none, 0), Samples.all());
            checks.refusedIndex("put(" + none + ", 255)", p -> p.put(none, 255), Samples.all());
        }
    }

    private void putNoWords() {
        for (int words : new int[] {-1, 256, Samples.LEAST, Samples.MOST}) {
            checks.refusedArgument("put(0, " + words + ")", p -> p.put(0, words), Samples.all());
            checks.refusedArgument("put(39, " + words + ")", p -> p.put(39, words), Samples.all());
        }
    }

    private void drop(Sentences sentences) {
        sentences.in(3);
        sentences.test("`boolean drop(int document) throws IndexOutOfBoundsException`: Takes a document away.",
                this::dropTakesAway);
        sentences.test("- `document`: 0 to 39", this::dropDocuments);
        sentences.test("Returns whether it was there.", this::dropAnswers);
        sentences.test("Throws `IndexOutOfBoundsException` if there is no such document", this::dropNoDocument);
    }

    private void dropTakesAway() {
        PostingPlanner planner = Samples.forty(255);
        for (int document = 0; document < 40; document++) {
            planner.drop(document);
            checks.same("matches(" + document + ")", planner.matches(document), false);
            checks.same("documents()", planner.documents(), 39 - document);
            checks.same("count(7)", planner.count(7), 39 - document);
        }
        planner.drop(0);
        checks.same("documents(), one dropped again", planner.documents(), 0);
    }

    private void dropDocuments() {
        PostingPlanner planner = Samples.with(0, 1, 1, 1, 38, 1, 39, 1);
        checks.same("drop(0)", planner.drop(0), true);
        checks.same("drop(39)", planner.drop(39), true);
        checks.same("matching", Checks.matching(planner), "1 38");
        checks.same("drop(1)", planner.drop(1), true);
        checks.same("drop(38)", planner.drop(38), true);
        for (int none : Samples.NO_DOCUMENTS) {
            checks.throwsIndex("drop(" + none + ")", () -> planner.drop(none));
        }
    }

    private void dropAnswers() {
        for (int document : new int[] {0, 39}) {
            PostingPlanner planner = new PostingPlanner();
            checks.same("drop, never there", planner.drop(document), false);
            planner.put(document, 0);
            checks.same("drop, there without words", planner.drop(document), true);
            checks.same("drop again", planner.drop(document), false);
            planner.put(document, 255);
            checks.same("drop, there with all words", planner.drop(document), true);
            checks.same("drop of a neighbour", planner.drop(document == 0 ? 1 : 38), false);
        }
    }

    private void dropNoDocument() {
        for (int none : Samples.NO_DOCUMENTS) {
            checks.refusedIndex("drop(" + none + ")", p -> p.drop(none), Samples.all());
        }
    }

    private void documents(Sentences sentences) {
        sentences.in(4);
        sentences.test("`int documents()`: Returns how many documents are there.", this::documentsNoneToForty);
    }

    private void documentsNoneToForty() {
        PostingPlanner planner = new PostingPlanner();
        checks.same("documents() of none", planner.documents(), 0);
        planner.drop(0);
        checks.same("documents(), one dropped that was not there", planner.documents(), 0);
        planner.put(39, 0);
        checks.same("documents() of one without words", planner.documents(), 1);
        for (int document = 0; document < 39; document++) {
            planner.put(document, document);
        }
        checks.same("documents() of all", planner.documents(), 40);
        planner.put(39, 255);
        checks.same("documents(), one replaced", planner.documents(), 40);
        planner.drop(39);
        checks.same("documents() of all but one", planner.documents(), 39);
    }

    private void count(Sentences sentences) {
        sentences.in(5);
        sentences.test("`int count(int word) throws IndexOutOfBoundsException`: Returns how many documents that are "
                + "there have a word.", this::countThoseThere);
        sentences.test("- `word`: 0 to 7", this::countWords);
        sentences.test("Returns how many.", this::countNoneToForty);
        sentences.test("Throws `IndexOutOfBoundsException` if there is no such word", this::countNoWord);
    }

    private void countThoseThere() {
        PostingPlanner planner = Samples.with(0, 1, 1, 254, 39, 129);
        checks.same("count(0)", planner.count(0), 2);
        checks.same("count(7)", planner.count(7), 2);
        planner.drop(39);
        checks.same("count(0), one dropped", planner.count(0), 1);
        checks.same("count(7), one dropped", planner.count(7), 1);
        planner.put(0, 0);
        checks.same("count(0), one without it now", planner.count(0), 0);
    }

    private void countWords() {
        PostingPlanner planner = new PostingPlanner();
        for (int document = 0; document < 8; document++) {
            planner.put(document, 255 << document & 255);
        }
        for (int word = 0; word < 8; word++) {
            checks.same("count(" + word + ")", planner.count(word), word + 1);
        }
        for (int none : Samples.NO_WORDS) {
            checks.throwsIndex("count(" + none + ")", () -> planner.count(none));
        }
    }

    private void countNoneToForty() {
        checks.same("count(0) of no documents", new PostingPlanner().count(0), 0);
        checks.same("count(7) of no documents", new PostingPlanner().count(7), 0);
        checks.same("count(0), none has it", Samples.forty(254).count(0), 0);
        checks.same("count(7), none has it", Samples.forty(127).count(7), 0);
        checks.same("count(0), all have it", Samples.forty(1).count(0), 40);
        checks.same("count(7), all have it", Samples.forty(128).count(7), 40);
        PostingPlanner planner = Samples.forty(255);
        planner.put(0, 254);
        planner.put(39, 127);
        checks.same("count(0), all but one have it", planner.count(0), 39);
        checks.same("count(7), all but one have it", planner.count(7), 39);
    }

    private void countNoWord() {
        for (int none : Samples.NO_WORDS) {
            checks.refusedIndex("count(" + none + ")", p -> p.count(none), Samples.all());
        }
    }
}
