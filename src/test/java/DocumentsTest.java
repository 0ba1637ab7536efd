/** Promises 1 to 5: a new object, and the documents. */
public final class DocumentsTest {
    private static final Checks CHECKS = new Checks("DocumentsTest");

    public static void main(String[] args) {
        newObject();
        put();
        drop();
        documents();
        count();
        CHECKS.end();
    }

    private static void newObject() {
        CHECKS.promise(1, "a new object");
        PostingPlanner planner = new PostingPlanner();
        CHECKS.same("documents()", planner.documents(), 0);
        for (int word = 0; word < 8; word++) {
            CHECKS.same("count(" + word + ")", planner.count(word), 0);
        }
        CHECKS.same("hits()", planner.hits(), 0);
        CHECKS.same("the plan", Checks.plan(planner), "ALWAYS/0~0[]");
        CHECKS.throwsIndex("literal of clause 0", () -> planner.literal(0, 0, false));
        CHECKS.throwsState("next()", () -> planner.next());
        CHECKS.throwsState("leap(0)", () -> planner.leap(0));
        CHECKS.throwsState("readings()", () -> planner.readings());
        planner.put(7, 0);
        CHECKS.same("matches(7), of an ALL", planner.matches(7), true);
        CHECKS.same("ask(), clauses before", planner.ask(PostingPlanner.ANY, 0), 0);
        CHECKS.same("matches(7), of an ANY", planner.matches(7), false);
        PostingPlanner other = new PostingPlanner();
        CHECKS.same("another object's documents()", other.documents(), 0);
        CHECKS.same("kind of the first question with a clause that fails", planKindOfNewWithFailingClause(), 4);
    }

    private static int planKindOfNewWithFailingClause() {
        PostingPlanner planner = new PostingPlanner();
        planner.clause(PostingPlanner.ALL, 0, false);
        planner.clause(PostingPlanner.ANY, 0, false);
        return planner.planKind();
    }

    private static void put() {
        CHECKS.promise(2, "put");
        PostingPlanner planner = new PostingPlanner();
        CHECKS.same("put(0, 255)", planner.put(0, 255), false);
        CHECKS.same("put(39, 0)", planner.put(39, 0), false);
        CHECKS.same("put(39, 4) again", planner.put(39, 4), true);
        CHECKS.same("put(0, 1) again", planner.put(0, 1), true);
        CHECKS.same("count(0)", planner.count(0), 1);
        CHECKS.same("count(1), replaced", planner.count(1), 0);
        CHECKS.same("count(2)", planner.count(2), 1);
        CHECKS.same("documents()", planner.documents(), 2);
        planner.drop(39);
        CHECKS.same("put(39, 0) after a drop", planner.put(39, 0), false);
        String before = Checks.picture(planner);
        CHECKS.throwsIndex("put(-1, 0)", () -> planner.put(-1, 0));
        CHECKS.throwsIndex("put(40, 0)", () -> planner.put(40, 0));
        CHECKS.throwsIndex("put(least, 0)", () -> planner.put(Integer.MIN_VALUE, 0));
        CHECKS.throwsIndex("put(most, 0)", () -> planner.put(Integer.MAX_VALUE, 0));
        CHECKS.throwsIndex("put(40, 256), both wrong", () -> planner.put(40, 256));
        CHECKS.throwsIndex("put(-1, -1), both wrong", () -> planner.put(-1, -1));
        CHECKS.throwsArgument("put(0, -1)", () -> planner.put(0, -1));
        CHECKS.throwsArgument("put(5, 256)", () -> planner.put(5, 256));
        CHECKS.throwsArgument("put(5, most)", () -> planner.put(5, Integer.MAX_VALUE));
        CHECKS.throwsArgument("put(5, least)", () -> planner.put(5, Integer.MIN_VALUE));
        CHECKS.same("after throws", Checks.picture(planner), before);
    }

    private static void drop() {
        CHECKS.promise(3, "drop");
        PostingPlanner planner = new PostingPlanner();
        CHECKS.same("drop(0), not there", planner.drop(0), false);
        CHECKS.same("drop(39), not there", planner.drop(39), false);
        planner.put(0, 0);
        planner.put(39, 255);
        CHECKS.same("drop(39)", planner.drop(39), true);
        CHECKS.same("drop(39) again", planner.drop(39), false);
        CHECKS.same("count(7)", planner.count(7), 0);
        CHECKS.same("documents()", planner.documents(), 1);
        CHECKS.same("drop(0), without words", planner.drop(0), true);
        CHECKS.same("documents() at the end", planner.documents(), 0);
        planner.put(4, 3);
        String before = Checks.picture(planner);
        CHECKS.throwsIndex("drop(-1)", () -> planner.drop(-1));
        CHECKS.throwsIndex("drop(40)", () -> planner.drop(40));
        CHECKS.throwsIndex("drop(least)", () -> planner.drop(Integer.MIN_VALUE));
        CHECKS.throwsIndex("drop(most)", () -> planner.drop(Integer.MAX_VALUE));
        CHECKS.same("after throws", Checks.picture(planner), before);
    }

    private static void documents() {
        CHECKS.promise(4, "documents");
        PostingPlanner planner = new PostingPlanner();
        for (int document = 0; document < 40; document++) {
            planner.put(document, document);
            CHECKS.same("documents() up to " + document, planner.documents(), document + 1);
        }
        planner.put(20, 0);
        CHECKS.same("documents() after one was replaced", planner.documents(), 40);
        planner.drop(20);
        planner.drop(0);
        CHECKS.same("documents() after two were dropped", planner.documents(), 38);
    }

    private static void count() {
        CHECKS.promise(5, "count");
        PostingPlanner planner = new PostingPlanner();
        for (int document = 0; document < 40; document++) {
            planner.put(document, document % 8 == 7 ? 128 : document % 2);
        }
        CHECKS.same("count(0)", planner.count(0), 15);
        CHECKS.same("count(1)", planner.count(1), 0);
        CHECKS.same("count(7)", planner.count(7), 5);
        planner.drop(39);
        planner.put(1, 64);
        CHECKS.same("count(7) after a drop", planner.count(7), 4);
        CHECKS.same("count(0) after a put", planner.count(0), 14);
        CHECKS.same("count(6) after a put", planner.count(6), 1);
        CHECKS.throwsIndex("count(-1)", () -> planner.count(-1));
        CHECKS.throwsIndex("count(8)", () -> planner.count(8));
        CHECKS.throwsIndex("count(least)", () -> planner.count(Integer.MIN_VALUE));
        CHECKS.throwsIndex("count(most)", () -> planner.count(Integer.MAX_VALUE));
    }
}
