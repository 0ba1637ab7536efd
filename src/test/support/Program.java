import com.sun.source.tree.ClassTree;
import com.sun.source.tree.CompilationUnitTree;
import com.sun.source.tree.MethodTree;
import com.sun.source.tree.Tree;
import com.sun.source.util.JavacTask;
import com.sun.source.util.TreePath;
import com.sun.source.util.TreePathScanner;
import com.sun.source.util.Trees;
import java.io.File;
import java.io.IOException;
import java.util.ArrayList;
import java.util.List;
import javax.lang.model.element.Element;
import javax.lang.model.element.ElementKind;
import javax.lang.model.element.ExecutableElement;
import javax.lang.model.element.TypeElement;
import javax.lang.model.type.TypeMirror;
import javax.lang.model.util.Elements;
import javax.tools.JavaCompiler;
import javax.tools.StandardJavaFileManager;
import javax.tools.ToolProvider;

/** The text of the program as the compiler sees it: each piece of it, with what it names and its type. */
final class Program {
    static final String FILE = "src/main/java/PostingPlanner.java";
    static final String FACE = "PostingPlanner";

    private final List<TreePath> pieces = new ArrayList<>();
    private final Trees trees;
    private final CompilationUnitTree unit;
    final Elements elements;

    Program() throws IOException {
        JavaCompiler compiler = ToolProvider.getSystemJavaCompiler();
        try (StandardJavaFileManager files = compiler.getStandardFileManager(null, null, null)) {
            JavacTask task = (JavacTask) compiler.getTask(null, files, null, List.of("-proc:none"), null,
                    files.getJavaFileObjects(new File(FILE)));
            unit = task.parse().iterator().next();
            task.analyze();
            trees = Trees.instance(task);
            elements = task.getElements();
        }
        new TreePathScanner<Void, Void>() {
            @Override
            public Void scan(Tree tree, Void nothing) {
                if (tree != null) {
                    pieces.add(new TreePath(getCurrentPath(), tree));
                }
                return super.scan(tree, nothing);
            }
        }.scan(new TreePath(unit), null);
    }

    CompilationUnitTree unit() {
        return unit;
    }

    /** All pieces of a sort, but for what the compiler adds by itself, like constructors that nobody wrote. */
    List<TreePath> all(Class<? extends Tree> sort) {
        List<TreePath> found = new ArrayList<>();
        for (TreePath piece : pieces) {
            if (sort.isInstance(piece.getLeaf()) && isWritten(piece)) {
                found.add(piece);
            }
        }
        return found;
    }

    private boolean isWritten(TreePath piece) {
        MethodTree method = methodOf(piece);
        return method == null || !method.getName().contentEquals("<init>") || lines(method).contains("(");
    }

    /** What a name or a declaration stands for. */
    Element elementOf(TreePath piece) {
        return trees.getElement(piece);
    }

    TypeMirror typeOf(TreePath piece) {
        return trees.getTypeMirror(piece);
    }

    TreePath below(TreePath piece, Tree part) {
        return TreePath.getPath(piece, part);
    }

    /** The text of a piece; empty if it is not in the file. */
    String lines(Tree tree) {
        long start = trees.getSourcePositions().getStartPosition(unit, tree);
        long end = trees.getSourcePositions().getEndPosition(unit, tree);
        if (start < 0 || end < start) {
            return "";
        }
        try {
            return unit.getSourceFile().getCharContent(true).subSequence((int) start, (int) end).toString();
        } catch (IOException failed) {
            return "";
        }
    }

    /** Where a piece stands, for a message. */
    String place(TreePath piece) {
        long start = trees.getSourcePositions().getStartPosition(unit, piece.getLeaf());
        return "line " + unit.getLineMap().getLineNumber(Math.max(0, start));
    }

    /** The method that a piece stands in, null if none. */
    static MethodTree methodOf(TreePath piece) {
        for (TreePath at = piece; at != null; at = at.getParentPath()) {
            if (at.getLeaf() instanceof MethodTree) {
                return (MethodTree) at.getLeaf();
            }
            if (at.getLeaf() instanceof ClassTree) {
                return null;
            }
        }
        return null;
    }

    /** Whether it stands in the program's own file: the face, or a class or a member inside it. */
    static boolean isOwn(Element element) {
        for (Element at = element; at != null; at = at.getEnclosingElement()) {
            if (at instanceof TypeElement && ((TypeElement) at).getQualifiedName().contentEquals(FACE)) {
                return true;
            }
        }
        return false;
    }

    static boolean isConstructor(Element element) {
        return element != null && element.getKind() == ElementKind.CONSTRUCTOR;
    }

    /** A method as CLASS.NAME, for a message and for lists of what is allowed. */
    static String nameOf(ExecutableElement method) {
        return method.getEnclosingElement() + "." + method.getSimpleName();
    }
}
