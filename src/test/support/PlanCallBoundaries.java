import java.util.Arrays;
import java.util.function.ObjIntConsumer;

/** The sentences of promises 11 to 18: what the calls tell of the plan. */
final class PlanCallBoundaries {
    private static final int ALL = Samples.ALL;
    private static final int ANY = Samples.ANY;
    private static final int SOME = Samples.SOME;
    private static final String[] NO_CLAUSES = {"ALWAYS", "NEVER"};

    private final Checks checks;

    PlanCallBoundaries(Checks checks) {
        this.checks = checks;
    }

    void test(Sentences sentences) {
        sentences.in(11);
        sentences.test("`int planKind()`: Returns the kind of the plan, ALL to NEVER.", this::planKinds);
        sentences.in(12);
        sentences.test("`int planNeed()`: Returns the need of the plan if it is SOME;", this::planNeeds);
        sentences.test("0 otherwise.", this::planNeedOfOthers);
        sentences.in(13);
        sentences.test("`int planSize()`: Returns how many clauses the plan has;", this::planSizes);
        sentences.test("0 if it is ALWAYS or NEVER.", this::planSizeOfNone);
        sentences.in(14);
        sentences.test("`int estimate()`: Returns the estimate of the plan.", this::planEstimates);
        clauseAt(sentences);
        kindAt(sentences);
        estimateAt(sentences);
        literalAt(sentences);
    }

    private static PostingPlanner asked(int kind, int need, String clauses) {
        return Samples.asked(Samples.ten(), kind, need, clauses);
    }

    private void planKinds() {
        checks.same("of ALL", asked(ALL, 0, "0").planKind(), 0);
        checks.same("of ANY", asked(ANY, 0, "0").planKind(), 1);
        checks.same("of SOME", asked(SOME, 2, "012").planKind(), 2);
        checks.same("of ALWAYS", asked(ALL, 0, "").planKind(), 3);
        checks.same("of NEVER", asked(ANY, 0, "").planKind(), 4);
        checks.same("of a new object", new PostingPlanner().planKind(), 3);
    }

    private void planNeeds() {
        checks.same("of SOME 2 of 3", asked(SOME, 2, "012").planNeed(), 2);
        checks.same("of SOME 2 of 5", asked(SOME, 2, "01234").planNeed(), 2);
        checks.same("of SOME 4 of 5", asked(SOME, 4, "01234").planNeed(), 4);
        checks.same("of SOME 4 of 5, one ALWAYS", asked(SOME, 4, "A1234").planNeed(), 3);
        checks.same("of SOME 4 of 5, two ALWAYS", asked(SOME, 4, "A123A").planNeed(), 2);
        checks.same("of SOME 3 of 5, one NEVER", asked(SOME, 3, "N1234").planNeed(), 3);
    }

    private void planNeedOfOthers() {
        checks.same("of SOME 1 of 2, an ANY", asked(SOME, 1, "01").planNeed(), 0);
        checks.same("of SOME 2 of 2, an ALL", asked(SOME, 2, "01").planNeed(), 0);
        checks.same("of SOME 5 of 5, an ALL", asked(SOME, 5, "01234").planNeed(), 0);
        checks.same("of SOME 5 of 4, a NEVER", asked(SOME, 5, "0123").planNeed(), 0);
        checks.same("of SOME 1 of one ALWAYS, an ALWAYS", asked(SOME, 1, "A").planNeed(), 0);
        checks.same("of SOME 1 of two ALWAYS, an ALWAYS", asked(SOME, 1, "AA").planNeed(), 0);
        checks.same("of ALL", asked(ALL, 0, "01").planNeed(), 0);
        checks.same("of ANY", asked(ANY, 0, "01").planNeed(), 0);
        checks.same("of ANY after a SOME", afterSome(ANY).planNeed(), 0);
        checks.same("of ALL with an ALWAYS", asked(ALL, 0, "A1").planNeed(), 0);
        checks.same("of a new object", new PostingPlanner().planNeed(), 0);
    }

    private static PostingPlanner afterSome(int kind) {
        return Samples.asked(asked(SOME, 2, "012"), kind, 0, "012");
    }

    private void planSizes() {
        for (int size = 1; size <= 5; size++) {
            String clauses = "01234".substring(0, size);
            checks.same("of ALL", asked(ALL, 0, clauses).planSize(), size);
            checks.same("of ANY", asked(ANY, 0, clauses).planSize(), size);
            checks.same("of SOME 1, an ANY", asked(SOME, 1, clauses).planSize(), size);
        }
        checks.same("of SOME 4 of 5", asked(SOME, 4, "01234").planSize(), 5);
        checks.same("of ALL, four ALWAYS out", asked(ALL, 0, "AA0AA").planSize(), 1);
        checks.same("of ANY, four NEVER out", asked(ANY, 0, "NN0NN").planSize(), 1);
        checks.same("of SOME 2 of 3, two out", asked(SOME, 3, "A012N").planSize(), 3);
    }

    /** An object with clauses whose plan has none. */
    private static PostingPlanner withoutClauses(String kind) {
        return kind.equals("ALWAYS") ? asked(ANY, 0, "0123A") : asked(ALL, 0, "0123N");
    }

    private void planSizeOfNone() {
        for (String kind : NO_CLAUSES) {
            checks.same("of " + kind, withoutClauses(kind).planSize(), 0);
        }
        checks.same("of SOME 5 of 4, a NEVER", asked(SOME, 5, "0123").planSize(), 0);
        checks.same("of SOME 1 with an ALWAYS", asked(SOME, 1, "0123A").planSize(), 0);
        checks.same("of a new object", new PostingPlanner().planSize(), 0);
    }

    private void planEstimates() {
        checks.same("of a new object", new PostingPlanner().estimate(), 0);
        checks.same("ALL of all forty", Samples.asked(Samples.forty(255), ALL, 0, "07").estimate(), 40);
        checks.same("ANY of all forty", Samples.asked(Samples.forty(255), ANY, 0, "07").estimate(), 40);
        checks.same("SOME of all forty", Samples.asked(Samples.forty(255), SOME, 2, "077").estimate(), 40);
        checks.same("ALWAYS of all forty", Samples.asked(Samples.forty(255), ALL, 0, "").estimate(), 40);
        checks.same("NEVER of all forty", Samples.asked(Samples.forty(255), ANY, 0, "").estimate(), 0);
        checks.same("ALL of none", Samples.asked(Samples.forty(0), ALL, 0, "07").estimate(), 0);
        checks.same("ANY of none", Samples.asked(Samples.forty(0), ANY, 0, "07").estimate(), 0);
        checks.same("of the documents as they are now", afterDrop().estimate(), 39);
    }

    private static PostingPlanner afterDrop() {
        PostingPlanner planner = Samples.asked(Samples.forty(255), ALL, 0, "07");
        planner.estimate();
        planner.drop(39);
        return planner;
    }

    /** Places outside of plans of no clause, of one and of five. */
    private void noPlaces(String name, ObjIntConsumer<PostingPlanner> call) {
        for (int place : new int[] {-1, 0, 1, 4, 5, Samples.LEAST, Samples.MOST}) {
            if (place < 0 || place > 0) {
                PostingPlanner one = asked(ALL, 0, "A0A");
                checks.throwsArgument(name + " " + place + " of one clause", () -> call.accept(one, place));
            }
            if (place < 0 || place > 4) {
                PostingPlanner five = asked(ANY, 0, "01234");
                checks.throwsArgument(name + " " + place + " of five clauses", () -> call.accept(five, place));
            }
            for (String kind : NO_CLAUSES) {
                PostingPlanner none = withoutClauses(kind);
                checks.throwsArgument(name + " " + place + " of " + kind, () -> call.accept(none, place));
            }
            PostingPlanner fresh = new PostingPlanner();
            checks.throwsArgument(name + " " + place + " of a new object", () -> call.accept(fresh, place));
        }
    }

    /** Places that no sample's plan has, though it has clauses. */
    private void refusedPlaces(String name, ObjIntConsumer<PostingPlanner> call) {
        for (int place : new int[] {-1, 5, Samples.LEAST, Samples.MOST}) {
            checks.refusedArgument(name + " " + place, p -> call.accept(p, place), Samples.all());
        }
        checks.refusedArgument(name + " 0", p -> call.accept(p, 0), Samples.fresh());
        checks.refusedArgument(name + " 3", p -> call.accept(p, 3), Samples.idle(), Samples.busy());
    }

    private void clauseAt(Sentences sentences) {
        sentences.in(15);
        sentences.test("`int clauseAt(int place) throws IllegalArgumentException`: Returns the number, in the question, "
                + "of a clause of the plan.", this::numbers);
        sentences.test("- `place`: 0 to the size of the plan, less 1", this::clausePlaces);
        sentences.test("Returns the number.", this::leastAndLargestNumbers);
        sentences.test("Throws `IllegalArgumentException` if place is out of range",
                () -> refusedPlaces("clauseAt", PostingPlanner::clauseAt));
    }

    private void numbers() {
        PostingPlanner planner = asked(ALL, 0, "4A2A0");
        checks.same("clauseAt(0)", planner.clauseAt(0), 4);
        checks.same("clauseAt(1)", planner.clauseAt(1), 2);
        checks.same("clauseAt(2)", planner.clauseAt(2), 0);
        planner = asked(SOME, 2, "N3A21");
        checks.same("clauseAt(0), of an ANY", planner.clauseAt(0), 1);
        checks.same("clauseAt(2), of an ANY", planner.clauseAt(2), 4);
    }

    private void clausePlaces() {
        PostingPlanner planner = asked(ALL, 0, "43210");
        for (int place = 0; place < 5; place++) {
            checks.same("clauseAt(" + place + ") of five", planner.clauseAt(place), 4 - place);
        }
        checks.same("clauseAt(0) of one", asked(ALL, 0, "A0A").clauseAt(0), 1);
        noPlaces("clauseAt", PostingPlanner::clauseAt);
    }

    private void leastAndLargestNumbers() {
        checks.same("the first one, alone", asked(ALL, 0, "0AAAA").clauseAt(0), 0);
        checks.same("the fifth one, alone", asked(ALL, 0, "AAAA0").clauseAt(0), 4);
    }

    private void kindAt(Sentences sentences) {
        sentences.in(16);
        sentences.test("`int kindAt(int place) throws IllegalArgumentException`: Returns the kind of a clause of the "
                + "plan.", this::kindsMade);
        sentences.test("- `place`: 0 to the size of the plan, less 1", this::kindPlaces);
        sentences.test("Returns ALL, ANY or SOME.", this::kinds);
        sentences.test("Throws `IllegalArgumentException` if place is out of range",
                () -> refusedPlaces("kindAt", PostingPlanner::kindAt));
    }

    private void kindsMade() {
        PostingPlanner planner = Samples.ten();
        planner.ask(ANY, 0);
        Checks.clause(planner, ALL, 0, true, 1, 2);
        Checks.clause(planner, ANY, 0, true, 1, 2);
        Checks.clause(planner, SOME, 1, false, 1, 2);
        Checks.clause(planner, SOME, 2, false, 1, 2);
        Checks.clause(planner, SOME, 2, true, 1, 2, 3);
        checks.same("of a negated ALL", planner.kindAt(0), ANY);
        checks.same("of a negated ANY", planner.kindAt(1), ALL);
        checks.same("of SOME 1 of 2", planner.kindAt(2), ANY);
        checks.same("of SOME 2 of 2", planner.kindAt(3), ALL);
        checks.same("of a negated SOME 2 of 3", planner.kindAt(4), SOME);
    }

    /** An ALL, an ANY and a SOME, and two more of these. */
    private static PostingPlanner ofFiveKinds() {
        PostingPlanner planner = Samples.ten();
        planner.ask(ANY, 0);
        Checks.clause(planner, SOME, 2, false, 0, 1, 2);
        Checks.clause(planner, ALL, 0, false, 4, 3);
        Checks.clause(planner, ANY, 0, false, 0);
        Checks.clause(planner, SOME, 5, false, 7, 7, 7, 7, 7, -8);
        Checks.clause(planner, ANY, 0, false, 6, 7);
        return planner;
    }

    private void kindPlaces() {
        checks.same("kindAt(0) of five", ofFiveKinds().kindAt(0), SOME);
        checks.same("kindAt(4) of five", ofFiveKinds().kindAt(4), ANY);
        checks.same("kindAt(0) of one", asked(ALL, 0, "A0A").kindAt(0), ANY);
        noPlaces("kindAt", PostingPlanner::kindAt);
    }

    private void kinds() {
        checks.same("of an ALL", ofFiveKinds().kindAt(1), 0);
        checks.same("of an ANY", ofFiveKinds().kindAt(2), 1);
        checks.same("of a SOME", ofFiveKinds().kindAt(3), 2);
    }

    private void estimateAt(Sentences sentences) {
        sentences.in(17);
        sentences.test("`int estimateAt(int place) throws IllegalArgumentException`: Returns the estimate of a clause of "
                + "the plan.", this::clauseEstimates);
        sentences.test("- `place`: 0 to the size of the plan, less 1", this::estimatePlaces);
        sentences.test("Returns the estimate.", this::leastAndLargestEstimates);
        sentences.test("Throws `IllegalArgumentException` if place is out of range",
                () -> refusedPlaces("estimateAt", PostingPlanner::estimateAt));
    }

    private void clauseEstimates() {
        int[] due = {3, 4, 1, 8, 10};
        PostingPlanner planner = ofFiveKinds();
        for (int place = 0; place < 5; place++) {
            checks.same("estimateAt(" + place + ")", planner.estimateAt(place), due[place]);
        }
        planner.drop(0);
        checks.same("estimateAt(0), one document less", planner.estimateAt(0), 1);
        checks.same("estimateAt(4), one document less", planner.estimateAt(4), 9);
    }

    private void estimatePlaces() {
        PostingPlanner planner = asked(ALL, 0, "43210");
        checks.same("estimateAt(0) of five", planner.estimateAt(0), 1);
        checks.same("estimateAt(4) of five", planner.estimateAt(4), 5);
        checks.same("estimateAt(0) of one", asked(ALL, 0, "A2A").estimateAt(0), 3);
        noPlaces("estimateAt", PostingPlanner::estimateAt);
    }

    private void leastAndLargestEstimates() {
        PostingPlanner planner = Samples.forty(1);
        planner.ask(ANY, 0);
        Checks.clause(planner, ALL, 0, false, 0, 1);
        Checks.clause(planner, ANY, 0, false, 0, -2);
        Checks.clause(planner, SOME, 2, false, 1, 2, 3);
        Checks.clause(planner, SOME, 2, false, 0, 0, -8);
        checks.same("of an ALL with a literal that is true of none", planner.estimateAt(0), 0);
        checks.same("of an ANY of literals that are true of all", planner.estimateAt(1), 40);
        checks.same("of a SOME of literals that are true of none", planner.estimateAt(2), 0);
        checks.same("of a SOME of literals that are true of all", planner.estimateAt(3), 40);
    }

    private void literalAt(Sentences sentences) {
        sentences.in(18);
        sentences.test("`int literalAt(int place, int index) throws IllegalArgumentException`: Returns a literal of a "
                + "clause of the plan.", this::literalsMade);
        sentences.test("- `place`: 0 to the size of the plan, less 1", this::literalPlaces);
        sentences.test("- `index`: 0 to the number of its literals, less 1", this::literalIndexes);
        sentences.test("Returns 2 times the word, and 1 more if the literal is negated.", this::literalCodes);
        sentences.test("Throws `IllegalArgumentException` if place or index is out of range", this::literalRefused);
    }

    private void literalsMade() {
        PostingPlanner planner = Samples.one(Samples.ten(), ANY, 0, true, 3, -2, 3, 0);
        checks.same("literalAt(0, 0)", planner.literalAt(0, 0), 2);
        checks.same("literalAt(0, 1)", planner.literalAt(0, 1), 7);
        checks.same("literalAt(0, 2)", planner.literalAt(0, 2), 1);
        checks.throwsArgument("literalAt(0, 3), of one that was there twice", () -> planner.literalAt(0, 3));
    }

    private void literalPlaces() {
        PostingPlanner planner = asked(ALL, 0, "43210");
        for (int place = 0; place < 5; place++) {
            checks.same("literalAt(" + place + ", 0) of five", planner.literalAt(place, 0), 2 * place);
        }
        checks.same("literalAt(0, 0) of one", asked(ALL, 0, "A2A").literalAt(0, 0), 4);
        noPlaces("literalAt of index 0 and place", (p, place) -> p.literalAt(place, 0));
    }

    private void literalIndexes() {
        int[] six = {5, 4, 3, 2, 1, 0};
        for (int size = 1; size <= 6; size++) {
            PostingPlanner planner = Samples.one(Samples.ten(), ANY, 0, false, Arrays.copyOf(six, size));
            checks.same("literalAt(0, 0) of " + size, planner.literalAt(0, 0), 10);
            checks.same("literalAt(0, " + (size - 1) + ") of " + size, planner.literalAt(0, size - 1), 12 - 2 * size);
            for (int index : new int[] {-1, size, 6, 7, Samples.LEAST, Samples.MOST}) {
                checks.throwsArgument("literalAt(0, " + index + ") of " + size, () -> planner.literalAt(0, index));
            }
        }
        PostingPlanner fallen = Samples.one(Samples.ten(), ALL, 0, false, 1, 1, 1, 1, 1, 1);
        checks.same("literalAt(0, 0) of one that was there six times", fallen.literalAt(0, 0), 2);
        checks.throwsArgument("literalAt(0, 1) of one that was there six times", () -> fallen.literalAt(0, 1));
        PostingPlanner kept = Samples.one(Samples.ten(), SOME, 2, false, 1, 1, 1, 1, 1, 1);
        checks.same("literalAt(0, 5) of a SOME of six of the same", kept.literalAt(0, 5), 2);
    }

    private void literalCodes() {
        for (int word = 0; word < 8; word++) {
            PostingPlanner planner = Samples.one(Samples.ten(), ALL, 0, false, word);
            checks.same("of the word " + word, planner.literalAt(0, 0), 2 * word);
            Samples.one(planner, ALL, 0, false, -word - 1);
            checks.same("of the word " + word + ", negated", planner.literalAt(0, 0), 2 * word + 1);
            Samples.one(planner, ALL, 0, true, word);
            checks.same("of the word " + word + " in a negated clause", planner.literalAt(0, 0), 2 * word + 1);
        }
    }

    private void literalRefused() {
        refusedPlaces("literalAt of index 0 and place", (p, place) -> p.literalAt(place, 0));
        refusedPlaces("literalAt of index 6 and place", (p, place) -> p.literalAt(place, 6));
        for (int index : new int[] {-1, 6, Samples.LEAST, Samples.MOST}) {
            checks.refusedArgument("literalAt(0, " + index + ")", p -> p.literalAt(0, index), Samples.all());
        }
        checks.refusedArgument("literalAt(2, 1) of one literal", p -> p.literalAt(2, 1), Samples.idle(), Samples.busy());
    }
}
