import java.util.function.Supplier;

/** Objects that tests begin with, each made anew, and few enough calls old to be asked for all that they hold. */
final class Samples {
    static final int ALL = PostingPlanner.ALL;
    static final int ANY = PostingPlanner.ANY;
    static final int SOME = PostingPlanner.SOME;
    static final int ALWAYS = PostingPlanner.ALWAYS;
    static final int NEVER = PostingPlanner.NEVER;
    static final int NONE = PostingPlanner.NONE;

    /** Far outside of every range, and just outside of the ranges of numbers. */
    static final int LEAST = Integer.MIN_VALUE;
    static final int MOST = Integer.MAX_VALUE;
    static final int[] NO_DOCUMENTS = {-1, 40, LEAST, MOST};
    static final int[] NO_WORDS = {-1, 8, LEAST, MOST};

    private Samples() {
    }

    /** An object, and what to call it in a failure. */
    static final class Sample {
        final String name;
        final Supplier<PostingPlanner> made;

        Sample(String name, Supplier<PostingPlanner> made) {
            this.name = name;
            this.made = made;
        }
    }

    static Sample[] all() {
        return new Sample[] {fresh(), idle(), busy(), full()};
    }

    static Sample fresh() {
        return new Sample("a new object", PostingPlanner::new);
    }

    static Sample idle() {
        return new Sample("an object without a run", Samples::madeIdle);
    }

    static Sample busy() {
        return new Sample("an object amid a run", Samples::madeBusy);
    }

    static Sample full() {
        return new Sample("an object full of documents, clauses and literals, its run over", Samples::madeFull);
    }

    private static PostingPlanner madeIdle() {
        PostingPlanner planner = new PostingPlanner();
        int[][] documents = {{0, 1}, {3, 5}, {7, 6}, {20, 0}, {38, 255}, {39, 129}};
        for (int[] document : documents) {
            planner.put(document[0], document[1]);
        }
        planner.ask(SOME, 2);
        Checks.clause(planner, ANY, 0, false, 0, -2);
        Checks.clause(planner, SOME, 2, true, 0, 1, -3);
        Checks.clause(planner, ALL, 0, false, 2);
        return planner;
    }

    private static PostingPlanner madeBusy() {
        PostingPlanner planner = madeIdle();
        planner.begin();
        planner.next();
        return planner;
    }

    private static PostingPlanner madeFull() {
        PostingPlanner planner = new PostingPlanner();
        for (int document = 0; document < 40; document++) {
            planner.put(document, document * 37 & 255);
        }
        planner.ask(SOME, 3);
        Checks.clause(planner, ANY, 0, false, 0, 1, 2, 3, 0, 1);
        Checks.clause(planner, ALL, 0, true, 0, -3, 2, 5, 6, 6);
        Checks.clause(planner, SOME, 3, false, 7, 6, 5, 4, -1, -2);
        Checks.clause(planner, SOME, 2, true, 7, 7, 1, 2, 3, -8);
        Checks.clause(planner, SOME, 5, false, 0, 1, 2, 3, 4, 5);
        planner.begin();
        planner.next();
        planner.leap(39);
        planner.next();
        return planner;
    }

    /** Documents 0 to 9: the word w is had by 0 to w, so it is true of w + 1, and its contrary of 9 - w. */
    static PostingPlanner ten() {
        PostingPlanner planner = new PostingPlanner();
        for (int document = 0; document < 10; document++) {
            planner.put(document, document < 8 ? 255 << document & 255 : 0);
        }
        return planner;
    }

    /** As ten(), and documents 20 to 29 without words: a contrary is true of 19 - w. */
    static PostingPlanner twenty() {
        PostingPlanner planner = ten();
        for (int document = 20; document < 30; document++) {
            planner.put(document, 0);
        }
        return planner;
    }

    /** All forty documents, each with these words. */
    static PostingPlanner forty(int words) {
        PostingPlanner planner = new PostingPlanner();
        for (int document = 0; document < 40; document++) {
            planner.put(document, words);
        }
        return planner;
    }

    /** Documents from pairs of a number and its words. */
    static PostingPlanner with(int... pairs) {
        PostingPlanner planner = new PostingPlanner();
        for (int i = 0; i < pairs.length; i += 2) {
            planner.put(pairs[i], pairs[i + 1]);
        }
        return planner;
    }

    /** A clause for each sign: A is ALWAYS, N is NEVER, a digit is that word alone. */
    static PostingPlanner asked(PostingPlanner planner, int kind, int need, String clauses) {
        planner.ask(kind, need);
        for (char sign : clauses.toCharArray()) {
            if (sign == 'A') {
                planner.clause(ALL, 0, false);
            } else if (sign == 'N') {
                planner.clause(ANY, 0, false);
            } else {
                Checks.clause(planner, ANY, 0, false, sign - '0');
            }
        }
        return planner;
    }

    /** A question ALL of this one clause. */
    static PostingPlanner one(PostingPlanner planner, int kind, int need, boolean isNegated, int... literals) {
        planner.ask(ALL, 0);
        Checks.clause(planner, kind, need, isNegated, literals);
        return planner;
    }
}
