import com.sun.source.tree.AnnotationTree;
import com.sun.source.tree.ArrayAccessTree;
import com.sun.source.tree.AssertTree;
import com.sun.source.tree.BinaryTree;
import com.sun.source.tree.BlockTree;
import com.sun.source.tree.ClassTree;
import com.sun.source.tree.CompoundAssignmentTree;
import com.sun.source.tree.DoWhileLoopTree;
import com.sun.source.tree.EnhancedForLoopTree;
import com.sun.source.tree.ExpressionTree;
import com.sun.source.tree.ForLoopTree;
import com.sun.source.tree.IdentifierTree;
import com.sun.source.tree.ImportTree;
import com.sun.source.tree.InstanceOfTree;
import com.sun.source.tree.LambdaExpressionTree;
import com.sun.source.tree.LiteralTree;
import com.sun.source.tree.MemberReferenceTree;
import com.sun.source.tree.MethodInvocationTree;
import com.sun.source.tree.MethodTree;
import com.sun.source.tree.NewArrayTree;
import com.sun.source.tree.NewClassTree;
import com.sun.source.tree.SwitchExpressionTree;
import com.sun.source.tree.SwitchTree;
import com.sun.source.tree.SynchronizedTree;
import com.sun.source.tree.ThrowTree;
import com.sun.source.tree.Tree;
import com.sun.source.tree.TryTree;
import com.sun.source.tree.TypeCastTree;
import com.sun.source.tree.VariableTree;
import com.sun.source.tree.WhileLoopTree;
import com.sun.source.util.TreePath;
import java.io.IOException;
import java.util.ArrayList;
import java.util.HashSet;
import java.util.List;
import java.util.Set;
import java.util.TreeSet;
import javax.lang.model.element.Element;
import javax.lang.model.element.ExecutableElement;
import javax.lang.model.element.Modifier;
import javax.lang.model.element.VariableElement;
import javax.lang.model.type.ArrayType;
import javax.lang.model.type.DeclaredType;
import javax.lang.model.type.TypeKind;
import javax.lang.model.type.TypeMirror;

/**
 * The rules of LANGUAGE.md as far as they can be seen in the text of the program. Where the program does
 * without something that a rule allows (catches, while, casts), the test asks that it does without it.
 */
public final class LanguageTest {
    private static final Checks CHECKS = new Checks("LanguageTest");

    private static final Set<String> TYPES = Set.of("java.lang.String", "java.lang.StringBuilder",
            "java.lang.Integer", "java.util.ArrayList", "java.util.List");
    private static final Set<String> CALLS = Set.of("java.util.Arrays.fill", "java.lang.System.arraycopy",
            "java.lang.Long.bitCount", "java.lang.Integer.bitCount", "java.lang.Math.min", "java.lang.Math.max");
    private static final Set<String> EXCEPTIONS = Set.of("IllegalStateException", "IllegalArgumentException",
            "IndexOutOfBoundsException");
    private static final int MOST_LINES = 60;
    private static final int MOST_PARAMETERS = 7;
    private static final int MOST_OPEN_CALLS = 8;
    private static final int MOST_CLASSES = 12;
    private static final int MOST_FIELDS = 20;

    private final Program program;
    private final CallGraph graph;

    private LanguageTest() throws IOException {
        program = new Program();
        graph = new CallGraph(program);
    }

    public static void main(String[] args) throws IOException {
        LanguageTest test = new LanguageTest();
        test.file();
        test.names();
        test.classes();
        test.types();
        test.library();
        test.statics();
        test.exceptions();
        test.machine();
        test.recursion();
        test.loops();
        test.operators();
        test.sizes();
        test.calls();
        test.constructors();
        CHECKS.end();
    }

    private void none(String what, Class<? extends Tree> sort) {
        List<String> places = new ArrayList<>();
        for (TreePath piece : program.all(sort)) {
            places.add(program.place(piece));
        }
        CHECKS.same(what + " in the program", places.toString(), "[]");
    }

    /** So that a test that looks at nothing is seen. */
    private void some(String what, int found) {
        CHECKS.same(what + " were found", found > 0, true);
    }

    private String at(TreePath piece, String what) {
        return what + " in " + program.place(piece);
    }

    private void file() {
        CHECKS.topic("rules 1 and 4, the file");
        CHECKS.same("a package line", program.unit().getPackageName() == null, true);
        CHECKS.same("how many classes stand beside the face", program.unit().getTypeDecls().size(), 1);
        String text = program.lines(program.unit());
        CHECKS.same("signs other than those of plain text", text.replaceAll("[\\n\\x20-\\x7e]", ""), "");
        for (TreePath piece : program.all(ImportTree.class)) {
            ImportTree imported = (ImportTree) piece.getLeaf();
            CHECKS.same(at(piece, "a static import"), imported.isStatic(), false);
            CHECKS.same(at(piece, "import " + imported.getQualifiedIdentifier() + ", which is allowed"),
                    imported.getQualifiedIdentifier().toString().matches("java\\.util\\.(Arrays|ArrayList|List)"),
                    true);
        }
    }

    /** What else rule 1 says stands in FaceTest. */
    private void names() {
        CHECKS.topic("rule 1, names");
        Set<String> face = new TreeSet<>();
        for (ExecutableElement method : graph.face()) {
            face.add(method.getSimpleName().toString());
        }
        some("methods of the face", face.size());
        for (TreePath piece : program.all(MethodTree.class)) {
            Element method = program.elementOf(piece);
            if (!Program.isConstructor(method) && !method.getModifiers().contains(Modifier.PUBLIC)) {
                CHECKS.same(at(piece, method + " bears the name of a public one"),
                        face.contains(method.getSimpleName().toString()), false);
            }
        }
    }

    private void classes() {
        CHECKS.topic("rule 2");
        none("lambdas", LambdaExpressionTree.class);
        none("method references", MemberReferenceTree.class);
        for (TreePath piece : program.all(ClassTree.class)) {
            Tree.Kind around = piece.getParentPath().getLeaf().getKind();
            CHECKS.same(at(piece, "a class stands in the file or in a class"),
                    around == Tree.Kind.COMPILATION_UNIT || around == Tree.Kind.CLASS, true);
        }
    }

    private void types() {
        CHECKS.topic("rule 3");
        int found = 0;
        for (TreePath piece : program.all(VariableTree.class)) {
            found++;
            TypeMirror type = program.elementOf(piece).asType();
            CHECKS.same(at(piece, type + " is allowed"), isAllowed(type), true);
        }
        some("variables", found);
        for (TreePath piece : program.all(MethodTree.class)) {
            TypeMirror type = ((ExecutableElement) program.elementOf(piece)).getReturnType();
            CHECKS.same(at(piece, type + " is allowed"), isAllowed(type), true);
        }
        for (TreePath piece : program.all(NewArrayTree.class)) {
            TypeMirror type = program.typeOf(piece);
            CHECKS.same(at(piece, type + " is allowed"), isAllowed(type), true);
        }
    }

    private boolean isAllowed(TypeMirror type) {
        if (type.getKind().isPrimitive() || type.getKind() == TypeKind.VOID) {
            return true;
        }
        if (type.getKind() == TypeKind.ARRAY) {
            TypeMirror part = ((ArrayType) type).getComponentType();
            boolean isTable = part.getKind() == TypeKind.ARRAY
                    && ((ArrayType) part).getComponentType().getKind().isPrimitive();
            return isTable || part.getKind().isPrimitive() || isOwn(part);
        }
        return isOwn(type) || TYPES.contains(type.toString().replaceAll("<.*", ""));
    }

    private boolean isOwn(TypeMirror type) {
        return type.getKind() == TypeKind.DECLARED && Program.isOwn(((DeclaredType) type).asElement());
    }

    private void library() {
        CHECKS.topic("rules 4 and 13, the library");
        int found = 0;
        for (TreePath piece : program.all(MethodInvocationTree.class)) {
            found++;
            ExecutableElement method = (ExecutableElement) program.elementOf(piece);
            // The compiler puts a call of Object's constructor at the head of each constructor.
            boolean isAllowed = Program.isOwn(method) || Program.isConstructor(method)
                    || CALLS.contains(Program.nameOf(method));
            CHECKS.same(at(piece, Program.nameOf(method) + " is allowed"), isAllowed, true);
        }
        some("calls", found);
        for (TreePath piece : program.all(NewClassTree.class)) {
            boolean isThrown = piece.getParentPath().getLeaf() instanceof ThrowTree;
            CHECKS.same(at(piece, piece.getLeaf() + " is allowed"), isThrown || isOwn(program.typeOf(piece)), true);
        }
    }

    private void statics() {
        CHECKS.topic("rule 5");
        for (TreePath piece : program.all(BlockTree.class)) {
            boolean isInClass = piece.getParentPath().getLeaf() instanceof ClassTree;
            CHECKS.same(at(piece, "an initialiser block"), isInClass, false);
        }
        int found = 0;
        for (TreePath piece : program.all(VariableTree.class)) {
            Element field = program.elementOf(piece);
            if (field.getModifiers().contains(Modifier.STATIC)) {
                found++;
                CHECKS.same(at(piece, field + " is final"), field.getModifiers().contains(Modifier.FINAL), true);
                CHECKS.same(at(piece, field + " is a constant"),
                        ((VariableElement) field).getConstantValue() != null, true);
            }
        }
        some("constants", found);
    }

    private void exceptions() {
        CHECKS.topic("rule 6");
        none("try", TryTree.class);
        none("synchronized", SynchronizedTree.class);
        none("assert", AssertTree.class);
        none("annotations (no rule lists them)", AnnotationTree.class);
        for (TreePath piece : program.all(MethodTree.class)) {
            CHECKS.same(at(piece, "synchronized"),
                    program.elementOf(piece).getModifiers().contains(Modifier.SYNCHRONIZED), false);
        }
        throwing();
    }

    private void throwing() {
        for (TreePath piece : program.all(ThrowTree.class)) {
            ExpressionTree thrown = ((ThrowTree) piece.getLeaf()).getExpression();
            boolean isNew = thrown instanceof NewClassTree;
            CHECKS.same(at(piece, "throws what it makes there"), isNew, true);
            if (isNew) {
                thrownNew(piece, (NewClassTree) thrown);
            }
            CHECKS.same(at(piece, "a throw in a constructor"),
                    Program.methodOf(piece).getName().contentEquals("<init>"), false);
        }
        for (ExecutableElement method : graph.face()) {
            Set<String> due = new TreeSet<>();
            for (TypeMirror type : method.getThrownTypes()) {
                due.add(((DeclaredType) type).asElement().getSimpleName().toString());
            }
            CHECKS.same("what can be thrown in " + method, graph.thrownFrom(method).toString(), due.toString());
        }
    }

    private void thrownNew(TreePath piece, NewClassTree thrown) {
        CHECKS.same(at(piece, thrown + " is allowed"), EXCEPTIONS.contains(thrown.getIdentifier().toString()), true);
        List<? extends ExpressionTree> texts = thrown.getArguments();
        CHECKS.same(at(piece, thrown + " has a written text or none"),
                texts.isEmpty() || texts.size() == 1 && texts.get(0).getKind() == Tree.Kind.STRING_LITERAL, true);
    }

    /** Where the machine itself could throw, a test must stand ahead of it: these are so few that each is known. */
    private void machine() {
        CHECKS.topic("rule 7");
        none("casts", TypeCastTree.class);
        none("instanceof", InstanceOfTree.class);
        for (TreePath piece : program.all(BinaryTree.class)) {
            Tree.Kind kind = piece.getLeaf().getKind();
            if (kind == Tree.Kind.DIVIDE || kind == Tree.Kind.REMAINDER) {
                CHECKS.same(at(piece, "the divisor is tested ahead of it"),
                        program.lines(statementOf(piece)).contains("need < 1 ? most : "), true);
            }
        }
        for (TreePath piece : program.all(CompoundAssignmentTree.class)) {
            Tree.Kind kind = piece.getLeaf().getKind();
            CHECKS.same(at(piece, "a division"),
                    kind == Tree.Kind.DIVIDE_ASSIGNMENT || kind == Tree.Kind.REMAINDER_ASSIGNMENT, false);
        }
        int found = 0;
        for (TreePath piece : program.all(ArrayAccessTree.class)) {
            found++;
            ArrayAccessTree access = (ArrayAccessTree) piece.getLeaf();
            CHECKS.same(at(piece, "the index of " + access + " is held against the length in its method"),
                    program.lines(Program.methodOf(piece)).contains(lastName(access) + ".length"), true);
        }
        some("uses of arrays", found);
        for (TreePath piece : program.all(NewArrayTree.class)) {
            List<? extends ExpressionTree> lengths = ((NewArrayTree) piece.getLeaf()).getDimensions();
            Element length = program.elementOf(program.below(piece, lengths.get(0)));
            CHECKS.same(at(piece, "the length of a new array is a constant above 0"),
                    length instanceof VariableElement && ((VariableElement) length).getConstantValue() instanceof Integer
                            && (Integer) ((VariableElement) length).getConstantValue() > 0, true);
        }
    }

    private Tree statementOf(TreePath piece) {
        TreePath at = piece;
        while (at.getLeaf() instanceof ExpressionTree) {
            at = at.getParentPath();
        }
        return at.getLeaf();
    }

    private String lastName(ArrayAccessTree access) {
        return access.getExpression().toString().replaceAll(".*\\.", "");
    }

    private void recursion() {
        CHECKS.topic("rule 8");
        Set<ExecutableElement> recursive = graph.recursiveWithout(Set.of());
        some("methods that come to call themselves", recursive.size());
        for (ExecutableElement method : recursive) {
            List<? extends VariableElement> parameters = method.getParameters();
            boolean isCarried = !parameters.isEmpty()
                    && parameters.get(parameters.size() - 1).getSimpleName().contentEquals("depth");
            CHECKS.same(Program.nameOf(method) + " carries the depth", isCarried, true);
        }
        int deeper = 0;
        for (TreePath piece : program.all(MethodInvocationTree.class)) {
            MethodInvocationTree call = (MethodInvocationTree) piece.getLeaf();
            if (recursive.contains(program.elementOf(piece))) {
                String depth = call.getArguments().get(call.getArguments().size() - 1).toString();
                CHECKS.same(at(piece, depth + " is a depth"), depth.matches("0|depth|depth \\+ 1"), true);
                deeper += depth.equals("depth + 1") ? 1 : 0;
            }
        }
        some("calls that go deeper", deeper);
        CHECKS.same("ways to come to call oneself that lead by no refusal of the depth",
                graph.recursiveWithout(refusing()).toString(), "[]");
    }

    /** The methods that begin with a refusal of what would go deeper than the limit. */
    private Set<ExecutableElement> refusing() {
        Set<ExecutableElement> refusing = new HashSet<>();
        for (TreePath piece : program.all(MethodTree.class)) {
            String text = program.lines(piece.getLeaf()).replaceAll("\\s+", " ");
            if (text.matches("[^{]*\\{ if \\(depth > MOST_DEPTH\\) \\{ return .*")) {
                refusing.add((ExecutableElement) program.elementOf(piece));
            }
        }
        return refusing;
    }

    private void loops() {
        CHECKS.topic("rule 9");
        none("while", WhileLoopTree.class);
        none("do", DoWhileLoopTree.class);
        int found = program.all(EnhancedForLoopTree.class).size();
        for (TreePath piece : program.all(ForLoopTree.class)) {
            found++;
            ForLoopTree loop = (ForLoopTree) piece.getLeaf();
            boolean hasCounter = loop.getInitializer().size() == 1 && loop.getUpdate().size() == 1
                    && loop.getInitializer().get(0) instanceof VariableTree && loop.getCondition() != null;
            CHECKS.same(at(piece, "the loop has one counter"), hasCounter, true);
            if (hasCounter) {
                counter(piece, loop, ((VariableTree) loop.getInitializer().get(0)).getName().toString());
            }
        }
        some("loops", found);
    }

    private void counter(TreePath piece, ForLoopTree loop, String name) {
        String update = program.lines(loop.getUpdate().get(0));
        boolean isRising = update.startsWith(name + "++");
        boolean isFalling = update.startsWith(name + "--");
        CHECKS.same(at(piece, "the counter " + name + " rises or falls by 1"), isRising || isFalling, true);
        String bound = "(^|.*&& )" + name + (isRising ? " < " : " > ") + "(\\w|\\.)+($| &&.*)";
        String condition = program.lines(loop.getCondition());
        CHECKS.same(at(piece, "the counter " + name + " has a bound in " + condition),
                condition.matches(bound) && !condition.contains("||"), true);
        CHECKS.same(at(piece, "the counter " + name + " is changed in the loop"),
                program.lines(loop.getStatement()).matches("(?s).*\\b" + name + "(\\+\\+|--| [-+*/|&^%]?= ).*"), false);
    }

    private void operators() {
        CHECKS.topic("rules 6 and 10");
        none("switch as a value", SwitchExpressionTree.class);
        for (TreePath piece : program.all(SwitchTree.class)) {
            TypeMirror type = program.typeOf(program.below(piece, ((SwitchTree) piece.getLeaf()).getExpression()));
            CHECKS.same(at(piece, "what a switch is on"), type.toString(), "int");
        }
        for (TreePath piece : program.all(BinaryTree.class)) {
            BinaryTree pair = (BinaryTree) piece.getLeaf();
            for (ExpressionTree side : List.of(pair.getLeftOperand(), pair.getRightOperand())) {
                TypeMirror type = program.typeOf(program.below(piece, side));
                boolean isAllowed = type.getKind().isPrimitive() || type.getKind() == TypeKind.NULL || isOwn(type);
                CHECKS.same(at(piece, "texts and the library's objects are not joined or compared by signs"),
                        isAllowed, true);
            }
        }
        for (TreePath piece : program.all(LiteralTree.class)) {
            Tree.Kind kind = piece.getLeaf().getKind();
            CHECKS.same(at(piece, "a number with a point"),
                    kind == Tree.Kind.DOUBLE_LITERAL || kind == Tree.Kind.FLOAT_LITERAL, false);
        }
    }

    private void sizes() {
        CHECKS.topic("rule 11");
        for (TreePath piece : program.all(MethodTree.class)) {
            MethodTree method = (MethodTree) piece.getLeaf();
            CHECKS.same(at(piece, method.getName() + " is short"),
                    program.lines(method).lines().count() <= MOST_LINES, true);
            CHECKS.same(at(piece, method.getName() + " takes seven parameters at most"),
                    method.getParameters().size() <= MOST_PARAMETERS, true);
        }
        List<TreePath> classes = program.all(ClassTree.class);
        CHECKS.same("at most twelve classes", classes.size() <= MOST_CLASSES, true);
        for (TreePath piece : classes) {
            int fields = 0;
            for (Tree member : ((ClassTree) piece.getLeaf()).getMembers()) {
                boolean isField = member instanceof VariableTree;
                fields += isField && !((VariableTree) member).getModifiers().getFlags().contains(Modifier.STATIC) ? 1 : 0;
            }
            CHECKS.same(at(piece, "at most twenty fields"), fields <= MOST_FIELDS, true);
        }
    }

    private void calls() {
        CHECKS.topic("rule 11, calls");
        int longest = 0;
        for (ExecutableElement method : graph.face()) {
            List<String> chain = new ArrayList<>();
            for (ExecutableElement called : graph.longestChain(method)) {
                chain.add(Program.nameOf(called));
            }
            CHECKS.same("the chain of calls " + chain + " is short", chain.size() <= MOST_OPEN_CALLS, true);
            longest = Math.max(longest, chain.size());
        }
        CHECKS.same("chains of calls are followed", longest > 4, true);
    }

    private void constructors() {
        CHECKS.topic("rule 12");
        List<TreePath> made = new ArrayList<>(program.all(NewArrayTree.class));
        for (TreePath piece : program.all(NewClassTree.class)) {
            if (!(piece.getParentPath().getLeaf() instanceof ThrowTree)) {
                made.add(piece);
            }
        }
        some("objects and arrays made", made.size());
        for (TreePath piece : made) {
            CHECKS.same(at(piece, "objects and arrays are made in constructors alone"), isInConstructor(piece), true);
        }
        for (TreePath piece : program.all(MethodInvocationTree.class)) {
            Element called = program.elementOf(piece);
            CHECKS.same(at(piece, "a constructor calls a method of the program"),
                    isInConstructor(piece) && Program.isOwn(called) && !Program.isConstructor(called), false);
        }
        for (TreePath piece : program.all(IdentifierTree.class)) {
            boolean isThis = ((IdentifierTree) piece.getLeaf()).getName().contentEquals("this");
            boolean isForField = piece.getParentPath().getLeaf().getKind() == Tree.Kind.MEMBER_SELECT;
            CHECKS.same(at(piece, "a constructor hands out its object"),
                    isInConstructor(piece) && isThis && !isForField, false);
        }
    }

    private boolean isInConstructor(TreePath piece) {
        MethodTree method = Program.methodOf(piece);
        return method != null && method.getName().contentEquals("<init>");
    }
}
