import java.util.ArrayList;
import java.util.Collections;
import java.util.Comparator;
import java.util.List;
import java.util.Random;

/**
 * Long runs of calls, ordinary ones and wrong ones, against a model that follows the words of the
 * document step by step, without a care for what it makes. The seeds are fixed.
 */
public final class ModelTest {
    private static final int OBJECTS = 6000;
    private static final int MOST_CALLS = 512;
    private static final int LITERAL = 9;
    private static final int END = 40;

    public static void main(String[] args) {
        Checks checks = new Checks("ModelTest");
        checks.topic("all promises");
        for (int seed = 0; seed < OBJECTS; seed++) {
            if (!runOf(seed, checks)) {
                break;
            }
        }
        checks.end();
    }

    /** Answers whether all went well; of a run that did not, the calls are printed. */
    private static boolean runOf(int seed, Checks checks) {
        Random random = new Random(seed);
        PostingPlanner planner = new PostingPlanner();
        Model model = new Model();
        Habits habits = new Habits(random);
        StringBuilder told = new StringBuilder();
        for (int call = 0; call < MOST_CALLS; call++) {
            int[] c = habits.call(model);
            String due = answer(model, c);
            String got = answer(planner, c);
            told.append(describe(c)).append(" -> ").append(due).append('\n');
            checks.same("object " + seed + ", call " + call + ", " + describe(c), got, due);
            if (!got.equals(due)) {
                System.out.println(told);
                return false;
            }
        }
        return true;
    }

    private static final String[] NAMES = {"put", "drop", "documents", "count", "ask", "clause", "literal", "matches",
        "hits", "planKind", "planNeed", "planSize", "estimate", "clauseAt", "kindAt", "estimateAt", "literalAt",
        "begin", "leap", "next", "readings"};

    private static String describe(int[] c) {
        return NAMES[c[0]] + "(" + c[1] + ", " + c[2] + ", " + c[3] + ")";
    }

    private static String answer(PostingPlanner p, int[] c) {
        boolean flag = c[3] == 1;
        try {
            switch (c[0]) {
                case 0: return "" + p.put(c[1], c[2]);
                case 1: return "" + p.drop(c[1]);
                case 2: return "" + p.documents();
                case 3: return "" + p.count(c[1]);
                case 4: return "" + p.ask(c[1], c[2]);
                case 5: return "" + p.clause(c[1], c[2], flag);
                case 6: return "" + p.literal(c[1], c[2], flag);
                case 7: return "" + p.matches(c[1]);
                case 8: return "" + p.hits();
                case 9: return "" + p.planKind();
                case 10: return "" + p.planNeed();
                case 11: return "" + p.planSize();
                case 12: return "" + p.estimate();
                case 13: return "" + p.clauseAt(c[1]);
                case 14: return "" + p.kindAt(c[1]);
                case 15: return "" + p.estimateAt(c[1]);
                case 16: return "" + p.literalAt(c[1], c[2]);
                case 17: return "" + p.begin();
                case 18: return "" + p.leap(c[1]);
                case 19: return "" + p.next();
                default: return "" + p.readings();
            }
        } catch (RuntimeException thrown) {
            return thrown.getClass().getSimpleName();
        }
    }

    private static String answer(Model m, int[] c) {
        boolean flag = c[3] == 1;
        switch (c[0]) {
            case 0: return m.put(c[1], c[2]);
            case 1: return m.drop(c[1]);
            case 2: return "" + m.there().size();
            case 3: return m.count(c[1]);
            case 4: return m.ask(c[1], c[2]);
            case 5: return m.clause(c[1], c[2], flag);
            case 6: return m.literal(c[1], c[2], flag);
            case 7: return m.matches(c[1]);
            case 8: return m.hits();
            case 9: return "" + m.plan().kind;
            case 10: return "" + (m.plan().kind == 2 ? m.plan().need : 0);
            case 11: return "" + m.plan().parts.size();
            case 12: return "" + m.plan().estimate;
            case 13: case 14: case 15: return m.at(c[0], c[1]);
            case 16: return m.literalAt(c[1], c[2]);
            case 17: return m.begin();
            case 18: return m.leap(c[1]);
            case 19: return m.run == null ? STATE : m.leap(0);
            default: return m.run == null ? STATE : "" + m.run.readings;
        }
    }

    private static final String INDEX = "IndexOutOfBoundsException";
    private static final String ARGUMENT = "IllegalArgumentException";
    private static final String STATE = "IllegalStateException";

    /** What calls an object is given: each object has leanings of its own, so that all kinds of plans come up. */
    private static final class Habits {
        private static final int[] EXTREMES = {Integer.MIN_VALUE, Integer.MAX_VALUE, -1, 40, 41, 256, -2, 7, 8};
        private final Random random;
        private final int spread;
        private final int words;
        private final int density;
        private final int rareWrong;

        Habits(Random random) {
            this.random = random;
            spread = 3 + random.nextInt(38);
            words = 1 + random.nextInt(8);
            density = 1 + random.nextInt(3);
            rareWrong = 8 + random.nextInt(60);
        }

        int[] call(Model model) {
            int[] c = ordinary(model);
            if (random.nextInt(rareWrong) == 0) {
                c[1 + random.nextInt(2)] = EXTREMES[random.nextInt(EXTREMES.length)];
            }
            return c;
        }

        private int[] ordinary(Model model) {
            int dice = random.nextInt(100);
            if (dice < 16) {
                return of(0, document(), wordSet(), 0);
            } else if (dice < 19) {
                return of(1, document(), 0, 0);
            } else if (dice < 21) {
                return of(2 + random.nextInt(2), random.nextInt(8), 0, 0);
            } else if (dice < 23) {
                int kind = random.nextInt(3);
                return of(4, kind, kind == 2 ? 1 + random.nextInt(5) : 0, 0);
            } else if (dice < 31) {
                int kind = random.nextInt(3);
                return of(5, kind, kind == 2 ? 1 + random.nextInt(random.nextBoolean() ? 3 : 6) : 0,
                        random.nextInt(3) == 0 ? 1 : 0);
            } else if (dice < 46) {
                int clauses = Math.max(1, model.clauses.size());
                return of(6, random.nextInt(clauses), random.nextInt(words), random.nextInt(3) == 0 ? 1 : 0);
            } else if (dice < 50) {
                return of(7 + random.nextInt(2), document(), 0, 0);
            } else if (dice < 57) {
                return of(9 + random.nextInt(4), 0, 0, 0);
            } else if (dice < 67) {
                int size = Math.max(1, model.plan().parts.size());
                return of(13 + random.nextInt(4), random.nextInt(size), random.nextInt(4), 0);
            } else if (dice < 71) {
                return of(17, 0, 0, 0);
            } else if (dice < 79) {
                return of(18, document(), 0, 0);
            }
            return of(dice < 91 ? 19 : 20, 0, 0, 0);
        }

        private int document() {
            return random.nextInt(10) == 0 ? random.nextInt(40) : random.nextInt(Math.min(40, spread));
        }

        private int wordSet() {
            int set = random.nextInt(256);
            return density == 1 ? set & random.nextInt(256) : density == 2 ? set : set | random.nextInt(256);
        }

        private static int[] of(int call, int a, int b, int c) {
            return new int[] {call, a, b, c};
        }
    }

    private static final class Told {
        int kind;
        int need;
        boolean isNegated;
        List<Integer> literals = new ArrayList<>();
    }

    private static final class Node {
        int kind;
        int need;
        int number;
        int estimate;
        int place = -1;
        List<Node> parts = new ArrayList<>();
    }

    private static final class Run {
        Node plan;
        int[] documents;
        int readings = 0;
        int given = -1;
        boolean isOver = false;

        boolean isTrue(int code, int document) {
            return documents[document] >= 0 && (documents[document] >> code / 2) % 2 != code % 2;
        }

        int seek(Node node, int d) {
            if (node.place >= d) {
                return node.place;
            }
            switch (node.kind) {
                case LITERAL: node.place = seekLiteral(node.number, d); break;
                case 0: node.place = seekAll(node, d); break;
                case 1: node.place = seekAny(node, d); break;
                case 2: node.place = seekSome(node, d); break;
                case 3: node.place = d; while (node.place < END && documents[node.place] < 0) node.place++; break;
                default: node.place = END; break;
            }
            return node.place;
        }

        private int seekLiteral(int code, int d) {
            for (int document = d; document < END; document++) {
                if (documents[document] >= 0 && code % 2 == 1) {
                    readings++;
                }
                if (isTrue(code, document)) {
                    readings += code % 2 == 1 ? 0 : 1;
                    return document;
                }
            }
            readings++;
            return END;
        }

        private int seekAll(Node node, int d) {
            for (Node part : node.parts) {
                int place = seek(part, d);
                if (place == END) {
                    return END;
                }
                if (place > d) {
                    return seekAll(node, place);
                }
            }
            return d;
        }

        private int seekAny(Node node, int d) {
            List<Integer> places = new ArrayList<>();
            for (Node part : node.parts) {
                places.add(seek(part, d));
            }
            return Collections.min(places);
        }

        private int seekSome(Node node, int d) {
            List<Integer> places = new ArrayList<>();
            for (Node part : node.parts) {
                places.add(seek(part, d));
            }
            Collections.sort(places);
            int nth = places.get(node.need - 1);
            return nth > d && nth != END ? seekSome(node, nth) : nth;
        }
    }

    private static final class Model {
        int[] documents = new int[END];
        int kind = 0;
        int need = 0;
        List<Told> clauses = new ArrayList<>();
        Run run = null;

        Model() {
            java.util.Arrays.fill(documents, -1);
        }

        List<Integer> there() {
            List<Integer> there = new ArrayList<>();
            for (int document = 0; document < END; document++) {
                if (documents[document] >= 0) {
                    there.add(document);
                }
            }
            return there;
        }

        String put(int document, int words) {
            if (document < 0 || document > 39) {
                return INDEX;
            }
            if (words < 0 || words > 255) {
                return ARGUMENT;
            }
            boolean was = documents[document] >= 0;
            documents[document] = words;
            return "" + was;
        }

        String drop(int document) {
            if (document < 0 || document > 39) {
                return INDEX;
            }
            boolean was = documents[document] >= 0;
            documents[document] = -1;
            return "" + was;
        }

        String count(int word) {
            return word < 0 || word > 7 ? INDEX : "" + truths(2 * word);
        }

        int truths(int code) {
            int truths = 0;
            for (int document : there()) {
                truths += (documents[document] >> code / 2) % 2 != code % 2 ? 1 : 0;
            }
            return truths;
        }

        private static boolean isWrong(int kind, int need, int most) {
            return kind < 0 || kind > 2 || (kind == 2 ? need < 1 || need > most : need != 0);
        }

        String ask(int newKind, int newNeed) {
            if (isWrong(newKind, newNeed, 5)) {
                return ARGUMENT;
            }
            int before = clauses.size();
            kind = newKind;
            need = newNeed;
            clauses.clear();
            return "" + before;
        }

        String clause(int newKind, int newNeed, boolean isNegated) {
            if (isWrong(newKind, newNeed, 6)) {
                return ARGUMENT;
            }
            if (clauses.size() == 5) {
                return STATE;
            }
            Told told = new Told();
            told.kind = newKind;
            told.need = newNeed;
            told.isNegated = isNegated;
            clauses.add(told);
            return "" + (clauses.size() - 1);
        }

        String literal(int clause, int word, boolean isNegated) {
            if (clause < 0 || clause >= clauses.size() || word < 0 || word > 7) {
                return INDEX;
            }
            List<Integer> literals = clauses.get(clause).literals;
            if (literals.size() == 6) {
                return STATE;
            }
            literals.add(2 * word + (isNegated ? 1 : 0));
            return "" + literals.size();
        }

        private static boolean isTrue(int kind, int need, List<Boolean> parts) {
            int trues = Collections.frequency(parts, true);
            return kind == 0 ? !parts.contains(false) : kind == 1 ? parts.contains(true) : trues >= need;
        }

        private boolean isMatch(int document) {
            if (documents[document] < 0) {
                return false;
            }
            List<Boolean> trues = new ArrayList<>();
            for (Told told : clauses) {
                List<Boolean> literals = new ArrayList<>();
                for (int code : told.literals) {
                    literals.add((documents[document] >> code / 2) % 2 == (code % 2 == 1 ? 0 : 1));
                }
                trues.add(isTrue(told.kind, told.need, literals) ^ told.isNegated);
            }
            return isTrue(kind, need, trues);
        }

        String matches(int document) {
            return document < 0 || document > 39 ? INDEX : "" + isMatch(document);
        }

        String hits() {
            int hits = 0;
            for (int document = 0; document < END; document++) {
                hits += isMatch(document) ? 1 : 0;
            }
            return "" + hits;
        }

        Node plan() {
            Node plan = new Node();
            plan.kind = kind;
            plan.need = need;
            List<Node> made = new ArrayList<>();
            for (int number = 0; number < clauses.size(); number++) {
                Node clause = planned(clauses.get(number));
                clause.number = number;
                made.add(clause);
            }
            boolean hasNever = false;
            boolean hasAlways = false;
            for (Node clause : made) {
                if (clause.kind < 3) {
                    plan.parts.add(clause);
                } else if (clause.kind == 3) {
                    hasAlways = true;
                    plan.need--;
                } else {
                    hasNever = true;
                }
            }
            if (kind == 0 && hasNever) {
                plan.kind = 4;
            } else if (kind == 1 && hasAlways) {
                plan.kind = 3;
            }
            step2(plan);
            finish(plan);
            return plan;
        }

        private Node planned(Told told) {
            Node clause = new Node();
            clause.kind = told.kind;
            clause.need = told.need;
            List<Integer> codes = new ArrayList<>(told.literals);
            if (told.isNegated) {
                clause.kind = told.kind == 2 ? 2 : 1 - told.kind;
                clause.need = codes.size() - told.need + 1;
                codes.replaceAll(code -> code % 2 == 1 ? code - 1 : code + 1);
            }
            for (int code : codes) {
                Node literal = new Node();
                literal.kind = LITERAL;
                literal.number = code;
                literal.estimate = truths(code);
                clause.parts.add(literal);
            }
            step2(clause);
            if (clause.kind < 2) {
                step3(clause);
            }
            finish(clause);
            return clause;
        }

        private static void step2(Node node) {
            if (node.kind == 2) {
                int size = node.parts.size();
                node.kind = node.need <= 0 ? 3 : node.need > size ? 4 : node.need == 1 ? 1 : node.need == size ? 0 : 2;
            }
        }

        private static void step3(Node node) {
            List<Node> once = new ArrayList<>();
            List<Integer> codes = new ArrayList<>();
            for (Node literal : node.parts) {
                if (!codes.contains(literal.number)) {
                    codes.add(literal.number);
                    once.add(literal);
                }
            }
            node.parts = once;
            for (int word = 0; word < 8; word++) {
                if (codes.contains(2 * word) && codes.contains(2 * word + 1)) {
                    node.kind = node.kind == 0 ? 4 : 3;
                    return;
                }
            }
        }

        private void finish(Node node) {
            int there = there().size();
            if (node.kind < 2 && node.parts.isEmpty()) {
                node.kind = node.kind == 0 ? 3 : 4;
            }
            if (node.kind > 2) {
                node.parts.clear();
                node.estimate = node.kind == 3 ? there : 0;
                return;
            }
            int sum = node.parts.stream().mapToInt(part -> part.estimate).sum();
            int least = node.parts.stream().mapToInt(part -> part.estimate).min().getAsInt();
            node.estimate = node.kind == 0 ? least : Math.min(there, node.kind == 1 ? sum : sum / node.need);
            if (node.kind == 0) {
                node.parts.sort(Comparator.comparingInt((Node part) -> part.estimate)
                        .thenComparingInt(part -> part.number));
            }
        }

        String at(int call, int place) {
            List<Node> parts = plan().parts;
            if (place < 0 || place >= parts.size()) {
                return ARGUMENT;
            }
            Node clause = parts.get(place);
            return "" + (call == 13 ? clause.number : call == 14 ? clause.kind : clause.estimate);
        }

        String literalAt(int place, int index) {
            List<Node> parts = plan().parts;
            if (place < 0 || place >= parts.size() || index < 0 || index >= parts.get(place).parts.size()) {
                return ARGUMENT;
            }
            return "" + parts.get(place).parts.get(index).number;
        }

        String begin() {
            run = new Run();
            run.plan = plan();
            run.documents = documents.clone();
            return "" + run.plan.estimate;
        }

        String leap(int document) {
            if (document < 0 || document > 39) {
                return INDEX;
            }
            if (run == null) {
                return STATE;
            }
            int d = Math.max(document, run.given + 1);
            int found = run.isOver || d == END ? END : run.seek(run.plan, d);
            if (found == END) {
                run.isOver = true;
                return "-1";
            }
            // What the document promises of runs, beside how they are found.
            if (found < d || run.documents[found] < 0) {
                return "the model itself is wrong";
            }
            run.given = found;
            return "" + found;
        }
    }
}
