import java.util.Arrays;

public final class PostingPlanner {
    public static final int NONE = -1;
    public static final int ALL = 0;
    public static final int ANY = 1;
    public static final int SOME = 2;
    public static final int ALWAYS = 3;
    public static final int NEVER = 4;

    /** The place behind all documents, so also how many documents there can be. */
    private static final int END = 40;
    private static final int WORDS = 8;
    private static final int MOST_WORDS_SUM = 255;
    private static final int MOST_CLAUSES = 5;
    private static final int MOST_LITERALS = 6;
    /** The plan stands at depth 0, its clauses at 1: no part with parts of its own stands deeper. */
    private static final int MOST_DEPTH = 1;
    /** Far above what an ALL can need: 40 documents times 6 parts. */
    private static final int MOST_STEPS = 1000;

    private final Shelf shelf;
    private final Question question;
    private final Plan plan;
    private final Run run;

    public PostingPlanner() {
        shelf = new Shelf();
        question = new Question();
        plan = new Plan(new Tally());
        run = new Run();
    }

    // ---- documents

    public boolean put(int document, int words) throws IndexOutOfBoundsException, IllegalArgumentException {
        checkDocument(document);
        if (words < 0 || words > MOST_WORDS_SUM) {
            throw new IllegalArgumentException("words is out of range");
        }
        return shelf.replace(document, words);
    }

    public boolean drop(int document) throws IndexOutOfBoundsException {
        checkDocument(document);
        return shelf.replace(document, NONE);
    }

    public int documents() {
        return Long.bitCount(shelf.allThere());
    }

    public int count(int word) throws IndexOutOfBoundsException {
        checkWord(word);
        return Long.bitCount(shelf.truthsOf(codeOf(word, false)));
    }

    // ---- the question

    public int ask(int kind, int need) throws IllegalArgumentException {
        checkKindAndNeed(kind, need, MOST_CLAUSES);
        return question.restart(kind, need);
    }

    public int clause(int kind, int need, boolean isNegated)
            throws IllegalArgumentException, IllegalStateException {
        checkKindAndNeed(kind, need, MOST_LITERALS);
        int number = question.append(kind, need, isNegated);
        if (number == NONE) {
            throw new IllegalStateException("the question has 5 clauses");
        }
        return number;
    }

    public int literal(int clause, int word, boolean isNegated)
            throws IndexOutOfBoundsException, IllegalStateException {
        ToldClause told = question.toldAt(clause);
        if (told == null) {
            throw new IndexOutOfBoundsException("there is no such clause");
        }
        checkWord(word);
        if (!told.append(codeOf(word, isNegated))) {
            throw new IllegalStateException("the clause has 6 literals");
        }
        return told.size;
    }

    public boolean matches(int document) throws IndexOutOfBoundsException {
        checkDocument(document);
        return isHit(document);
    }

    public int hits() {
        int hits = 0;
        for (int document = 0; document < END; document++) {
            if (isHit(document)) {
                hits++;
            }
        }
        return hits;
    }

    // ---- the plan, as it would be made now

    public int planKind() {
        plan.make(question, shelf);
        return plan.kind;
    }

    public int planNeed() {
        plan.make(question, shelf);
        return plan.kind == SOME ? plan.need : 0;
    }

    public int planSize() {
        plan.make(question, shelf);
        return plan.size;
    }

    public int estimate() {
        plan.make(question, shelf);
        return plan.estimate;
    }

    public int clauseAt(int place) throws IllegalArgumentException {
        return plannedClause(place).rank;
    }

    public int kindAt(int place) throws IllegalArgumentException {
        return plannedClause(place).kind;
    }

    public int estimateAt(int place) throws IllegalArgumentException {
        return plannedClause(place).estimate;
    }

    public int literalAt(int place, int index) throws IllegalArgumentException {
        Part part = plannedClause(place).partAt(index);
        if (part == null) {
            throw new IllegalArgumentException("index is out of range");
        }
        return part.rank;
    }

    // ---- runs

    public int begin() {
        return run.restart(question, shelf);
    }

    public int leap(int document) throws IndexOutOfBoundsException, IllegalStateException {
        checkDocument(document);
        checkRun();
        return run.advance(document);
    }

    public int next() throws IllegalStateException {
        checkRun();
        return run.advance(0);
    }

    public int readings() throws IllegalStateException {
        checkRun();
        return run.tally.sum;
    }

    // ---- what the calls share

    private void checkDocument(int document) {
        if (document < 0 || document >= END) {
            throw new IndexOutOfBoundsException("there is no such document");
        }
    }

    private void checkWord(int word) {
        if (word < 0 || word >= WORDS) {
            throw new IndexOutOfBoundsException("there is no such word");
        }
    }

    private void checkKindAndNeed(int kind, int need, int mostNeed) {
        if (kind != ALL && kind != ANY && kind != SOME) {
            throw new IllegalArgumentException("kind is out of range");
        }
        int least = kind == SOME ? 1 : 0;
        int most = kind == SOME ? mostNeed : 0;
        if (need < least || need > most) {
            throw new IllegalArgumentException("need is out of range");
        }
    }

    private void checkRun() {
        if (!run.isBegun) {
            throw new IllegalStateException("there is no run");
        }
    }

    private boolean isHit(int document) {
        int words = shelf.wordsAt(document);
        return words != NONE && question.isTrueOf(words);
    }

    private PlannedClause plannedClause(int place) {
        plan.make(question, shelf);
        PlannedClause planned = plan.plannedAt(place);
        if (planned == null) {
            throw new IllegalArgumentException("place is out of range");
        }
        return planned;
    }

    /** A literal's code is what literalAt tells; that of its contrary differs in the last bit alone. */
    private static int codeOf(int word, boolean isNegated) {
        return 2 * word + (isNegated ? 1 : 0);
    }

    private static int contraryOf(int code) {
        return code ^ 1;
    }

    private static boolean isLiteralTrue(int code, int words) {
        return (words >> (code >> 1) & 1) != (code & 1);
    }

    /** Whether so many true parts make the whole true; clauses and the question are judged alike. */
    private static boolean isEnough(int trueParts, int parts, int kind, int need) {
        switch (kind) {
            case ALL:
                return trueParts == parts;
            case ANY:
                return trueParts > 0;
            default:
                return trueParts >= need;
        }
    }

    /** The least document of a set from one on, the end if there is none. */
    private static int firstOf(long set, int from) {
        for (int document = from; document < END; document++) {
            if ((set >> document & 1) == 1) {
                return document;
            }
        }
        return END;
    }

    /** The documents that are there, each with its words. A set of documents is a long, a bit for each. */
    private static final class Shelf {
        /** NONE for a document that is not there. */
        private final int[] words;

        Shelf() {
            words = new int[END];
            Arrays.fill(words, NONE);
        }

        int wordsAt(int document) {
            return document >= 0 && document < words.length ? words[document] : NONE;
        }

        /** Answers whether the document was there. */
        boolean replace(int document, int newWords) {
            if (document < 0 || document >= words.length) {
                return false;
            }
            boolean wasThere = words[document] != NONE;
            words[document] = newWords;
            return wasThere;
        }

        long allThere() {
            long there = 0;
            for (int document = 0; document < words.length; document++) {
                if (words[document] != NONE) {
                    there |= 1L << document;
                }
            }
            return there;
        }

        /** The documents that are there and that a literal is true of. */
        long truthsOf(int code) {
            long truths = 0;
            for (int document = 0; document < words.length; document++) {
                if (words[document] != NONE && isLiteralTrue(code, words[document])) {
                    truths |= 1L << document;
                }
            }
            return truths;
        }
    }

    /** A clause as it was told. */
    private static final class ToldClause {
        final int[] codes;
        int kind;
        int need;
        boolean isNegated;
        int size;

        ToldClause() {
            codes = new int[MOST_LITERALS];
        }

        void restart(int newKind, int newNeed, boolean newIsNegated) {
            kind = newKind;
            need = newNeed;
            isNegated = newIsNegated;
            size = 0;
        }

        /** Answers whether there was room for it. */
        boolean append(int code) {
            if (size < 0 || size >= codes.length) {
                return false;
            }
            codes[size] = code;
            size++;
            return true;
        }

        boolean isTrueOf(int words) {
            int trueLiterals = 0;
            for (int i = 0; i < size && i < codes.length; i++) {
                if (isLiteralTrue(codes[i], words)) {
                    trueLiterals++;
                }
            }
            return isEnough(trueLiterals, size, kind, need) != isNegated;
        }
    }

    /** The question as it was told. */
    private static final class Question {
        /** Made once and told anew, so that asking makes no objects. */
        private final ToldClause[] clauses;
        int kind;
        int need;
        private int size;

        Question() {
            clauses = new ToldClause[MOST_CLAUSES];
            for (int number = 0; number < clauses.length; number++) {
                clauses[number] = new ToldClause();
            }
            kind = ALL;
        }

        /** Answers how many clauses there were before. */
        int restart(int newKind, int newNeed) {
            int before = size;
            kind = newKind;
            need = newNeed;
            size = 0;
            return before;
        }

        /** Answers the number of the new clause, NONE if there is no room for it. */
        int append(int newKind, int newNeed, boolean isNegated) {
            if (size < 0 || size >= clauses.length || clauses[size] == null) {
                return NONE;
            }
            clauses[size].restart(newKind, newNeed, isNegated);
            size++;
            return size - 1;
        }

        /** The clause of a number, null if there is none. */
        ToldClause toldAt(int number) {
            return number >= 0 && number < size && number < clauses.length ? clauses[number] : null;
        }

        boolean isTrueOf(int words) {
            int trueClauses = 0;
            for (int number = 0; number < size; number++) {
                ToldClause told = toldAt(number);
                if (told != null && told.isTrueOf(words)) {
                    trueClauses++;
                }
            }
            return isEnough(trueClauses, size, kind, need);
        }
    }

    /** The readings of a run, which all literals of its plan add to. */
    private static final class Tally {
        int sum;
    }

    /** What stands in a plan: a literal, a clause, or the plan itself. */
    private abstract static class Part {
        /** A literal's code or a clause's number: both order parts of the same estimate. */
        int rank;
        int estimate;
        int place;

        /** Answers the place that it has then. */
        abstract int seek(int document, int depth);
    }

    private static final class PlannedLiteral extends Part {
        private final Tally tally;
        /** Sets of its own, so that a run does not see what is told after it began. */
        private long there;
        private long truths;

        PlannedLiteral(Tally tally) {
            this.tally = tally;
        }

        void make(int code, long allTruths, long allThere) {
            there = allThere;
            truths = allTruths;
            rank = code;
            estimate = Long.bitCount(truths);
            place = NONE;
        }

        int seek(int document, int depth) {
            if (place < document) {
                place = firstOf(truths, document);
                tally.sum += cost(document);
            }
            return place;
        }

        private int cost(int from) {
            boolean isNegated = (rank & 1) == 1;
            if (!isNegated) {
                return 1;
            }
            int passed = Long.bitCount(there >>> from) - Long.bitCount(there >>> place);
            // The place costs one, be it a document or the end.
            return passed + 1;
        }
    }

    /** What a plan and its clauses have in common: a kind, and parts that are sought in. */
    private abstract static class Group extends Part {
        /** In the order of the plan; what stands from the size on does not count. */
        private final Part[] parts;
        int kind;
        int need;
        int size;
        private long there;

        Group() {
            parts = new Part[MOST_LITERALS];
        }

        final void restart(int newKind, int newNeed, long allThere) {
            kind = newKind;
            need = newNeed;
            size = 0;
            there = allThere;
            place = NONE;
        }

        /** The part that stands there, null if none does. */
        final Part partAt(int index) {
            return index >= 0 && index < size && index < parts.length ? parts[index] : null;
        }

        final boolean hasRank(int rank) {
            for (int i = 0; i < size; i++) {
                Part part = partAt(i);
                if (part != null && part.rank == rank) {
                    return true;
                }
            }
            return false;
        }

        final void keep(Part part) {
            if (size >= 0 && size < parts.length) {
                parts[size] = part;
                size++;
            }
        }

        final boolean isFixed() {
            return kind == ALWAYS || kind == NEVER;
        }

        /** Makes it ALWAYS or NEVER, which have no parts. */
        final void fix(int newKind) {
            kind = newKind;
            size = 0;
        }

        /** Step 2, for so many parts. */
        final void settleSome(int count) {
            if (kind != SOME) {
                return;
            }
            if (need <= 0) {
                fix(ALWAYS);
            } else if (need > count) {
                fix(NEVER);
            } else if (need == 1) {
                kind = ANY;
            } else if (need == count) {
                kind = ALL;
            }
        }

        final void settleEmpty() {
            if (size == 0 && kind == ALL) {
                fix(ALWAYS);
            } else if (size == 0 && kind == ANY) {
                fix(NEVER);
            }
        }

        /** Needs the estimates of the parts. */
        final void appraise() {
            int most = Long.bitCount(there);
            switch (kind) {
                case ALL:
                    estimate = leastEstimate(most);
                    break;
                case ANY:
                    estimate = Math.min(sumOfEstimates(), most);
                    break;
                case SOME:
                    estimate = need < 1 ? most : Math.min(sumOfEstimates() / need, most);
                    break;
                case ALWAYS:
                    estimate = most;
                    break;
                default:
                    estimate = 0;
                    break;
            }
        }

        private int leastEstimate(int most) {
            int least = most;
            for (int i = 0; i < size; i++) {
                Part part = partAt(i);
                if (part != null) {
                    least = Math.min(least, part.estimate);
                }
            }
            return least;
        }

        private int sumOfEstimates() {
            int sum = 0;
            for (int i = 0; i < size; i++) {
                Part part = partAt(i);
                if (part != null) {
                    sum += part.estimate;
                }
            }
            return sum;
        }

        final void order() {
            if (kind != ALL) {
                return;
            }
            for (int i = 1; i < size && i < parts.length; i++) {
                for (int at = i; at > 0 && isBefore(parts[at], parts[at - 1]); at--) {
                    Part moved = parts[at];
                    parts[at] = parts[at - 1];
                    parts[at - 1] = moved;
                }
            }
        }

        private boolean isBefore(Part one, Part other) {
            if (one == null || other == null) {
                return false;
            }
            if (one.estimate != other.estimate) {
                return one.estimate < other.estimate;
            }
            return one.rank < other.rank;
        }

        final int seek(int document, int depth) {
            if (depth > MOST_DEPTH) {
                return END;
            }
            if (place >= document) {
                return place;
            }
            switch (kind) {
                case ALL:
                    place = seekAll(document, depth);
                    break;
                case ANY:
                    place = seekAny(document, depth);
                    break;
                case SOME:
                    place = seekSome(document, depth);
                    break;
                case ALWAYS:
                    place = firstOf(there, document);
                    break;
                default:
                    place = END;
                    break;
            }
            return place;
        }

        private int seekAll(int document, int depth) {
            int wanted = document;
            int agreed = 0;
            for (int step = 0; agreed < size && step < MOST_STEPS; step++) {
                Part part = partAt(agreed);
                int reached = part == null ? END : part.seek(wanted, depth + 1);
                if (reached >= END) {
                    return END;
                }
                if (reached > wanted) {
                    wanted = reached;
                    agreed = 0;
                } else {
                    agreed++;
                }
            }
            return wanted;
        }

        private int seekAny(int document, int depth) {
            int least = END;
            for (int i = 0; i < size; i++) {
                Part part = partAt(i);
                if (part != null) {
                    least = Math.min(least, part.seek(document, depth + 1));
                }
            }
            return least;
        }

        private int seekSome(int document, int depth) {
            int wanted = document;
            // A round that does not end it raises what is wanted, so there are 40 at most.
            for (int round = 0; round < END && wanted < END; round++) {
                seekAny(wanted, depth);
                int reached = neededPlace();
                if (reached <= wanted) {
                    return wanted;
                }
                wanted = reached;
            }
            return END;
        }

        /** The n-th place of the parts, by rising places, n being the need. */
        private int neededPlace() {
            int least = END;
            for (int i = 0; i < size; i++) {
                Part part = partAt(i);
                if (part != null && part.place < least && placesUpTo(part.place) >= need) {
                    least = part.place;
                }
            }
            return least;
        }

        private int placesUpTo(int bound) {
            int places = 0;
            for (int i = 0; i < size; i++) {
                Part part = partAt(i);
                if (part != null && part.place <= bound) {
                    places++;
                }
            }
            return places;
        }
    }

    private static final class PlannedClause extends Group {
        /** By their indexes in the told clause, also those that the plan leaves out. */
        private final PlannedLiteral[] literals;

        PlannedClause(int number, Tally tally) {
            rank = number;
            literals = new PlannedLiteral[MOST_LITERALS];
            for (int i = 0; i < literals.length; i++) {
                literals[i] = new PlannedLiteral(tally);
            }
        }

        void make(ToldClause told, Shelf shelf, long allThere) {
            restart(told.kind, told.need, allThere);
            if (told.isNegated) {
                turn(told.size);
            }
            settleSome(told.size);
            keepLiterals(told, shelf, allThere);
            settleContraries();
            settleEmpty();
            appraise();
            order();
        }

        /** Step 1, but for the literals. */
        private void turn(int count) {
            if (kind == SOME) {
                need = count - need + 1;
            } else {
                kind = kind == ALL ? ANY : ALL;
            }
        }

        private void keepLiterals(ToldClause told, Shelf shelf, long allThere) {
            if (isFixed()) {
                return;
            }
            for (int i = 0; i < told.size && i < told.codes.length && i < literals.length; i++) {
                int code = told.isNegated ? contraryOf(told.codes[i]) : told.codes[i];
                // A SOME counts a literal as often as it was told.
                if (literals[i] != null && (kind == SOME || !hasRank(code))) {
                    literals[i].make(code, shelf.truthsOf(code), allThere);
                    keep(literals[i]);
                }
            }
        }

        private void settleContraries() {
            if (kind != ALL && kind != ANY) {
                return;
            }
            for (int i = 0; i < size; i++) {
                Part part = partAt(i);
                if (part != null && hasRank(contraryOf(part.rank))) {
                    fix(kind == ALL ? NEVER : ALWAYS);
                }
            }
        }
    }

    private static final class Plan extends Group {
        /** By their numbers in the question, also those that the plan leaves out. */
        private final PlannedClause[] clauses;

        Plan(Tally tally) {
            clauses = new PlannedClause[MOST_CLAUSES];
            for (int number = 0; number < clauses.length; number++) {
                clauses[number] = new PlannedClause(number, tally);
            }
        }

        void make(Question question, Shelf shelf) {
            long allThere = shelf.allThere();
            restart(question.kind, question.need, allThere);
            for (int number = 0; number < clauses.length && !isFixed(); number++) {
                ToldClause told = question.toldAt(number);
                if (told != null && clauses[number] != null) {
                    clauses[number].make(told, shelf, allThere);
                    takeIn(clauses[number]);
                }
            }
            settleSome(size);
            settleEmpty();
            appraise();
            order();
        }

        /** Step 4, for one clause. */
        private void takeIn(PlannedClause made) {
            if (!made.isFixed()) {
                keep(made);
            } else if (made.kind == ALWAYS && kind == SOME) {
                need--;
            } else if (made.kind == ALWAYS && kind == ANY) {
                fix(ALWAYS);
            } else if (made.kind == NEVER && kind == ALL) {
                fix(NEVER);
            }
        }

        /** The clause that stands there, null if none does. */
        PlannedClause plannedAt(int index) {
            Part part = partAt(index);
            if (part == null || part.rank < 0 || part.rank >= clauses.length) {
                return null;
            }
            return clauses[part.rank];
        }
    }

    /** A run, of a plan of its own, so that what is told later does not reach it. */
    private static final class Run {
        final Tally tally;
        private final Plan plan;
        boolean isBegun;
        private int given;

        Run() {
            tally = new Tally();
            plan = new Plan(tally);
        }

        /** Answers the estimate of the plan. */
        int restart(Question question, Shelf shelf) {
            plan.make(question, shelf);
            tally.sum = 0;
            isBegun = true;
            given = NONE;
            return plan.estimate;
        }

        int advance(int document) {
            int wanted = Math.max(document, given + 1);
            // A plan whose place is the end stays there, so once there is none, this stays so.
            int found = wanted >= END ? END : plan.seek(wanted, 0);
            if (found >= END) {
                return NONE;
            }
            given = found;
            return found;
        }
    }
}
