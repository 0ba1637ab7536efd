import com.sun.source.tree.MethodInvocationTree;
import com.sun.source.tree.MethodTree;
import com.sun.source.tree.NewClassTree;
import com.sun.source.tree.ThrowTree;
import com.sun.source.util.TreePath;
import java.util.ArrayList;
import java.util.LinkedHashMap;
import java.util.LinkedHashSet;
import java.util.List;
import java.util.Map;
import java.util.Set;
import java.util.TreeSet;
import javax.lang.model.element.ExecutableElement;
import javax.lang.model.element.Modifier;
import javax.lang.model.element.TypeElement;

/** Which method of the program calls which, the methods of the library included, and what each one throws. */
final class CallGraph {
    private final Map<ExecutableElement, Set<ExecutableElement>> calls = new LinkedHashMap<>();
    private final Map<ExecutableElement, Set<String>> thrown = new LinkedHashMap<>();

    CallGraph(Program program) {
        for (TreePath method : program.all(MethodTree.class)) {
            calls.put((ExecutableElement) program.elementOf(method), new LinkedHashSet<>());
        }
        for (TreePath call : program.all(MethodInvocationTree.class)) {
            addCall(program, call);
        }
        for (TreePath piece : program.all(NewClassTree.class)) {
            addCall(program, piece);
        }
        addOverriding(program);
        for (TreePath piece : program.all(ThrowTree.class)) {
            NewClassTree made = (NewClassTree) ((ThrowTree) piece.getLeaf()).getExpression();
            thrown.computeIfAbsent(callerOf(program, piece), caller -> new TreeSet<>())
                    .add(made.getIdentifier().toString());
        }
    }

    private static ExecutableElement callerOf(Program program, TreePath piece) {
        MethodTree method = Program.methodOf(piece);
        return method == null ? null : (ExecutableElement) program.elementOf(new TreePath(piece, method));
    }

    private void addCall(Program program, TreePath call) {
        ExecutableElement caller = callerOf(program, call);
        ExecutableElement callee = (ExecutableElement) program.elementOf(call);
        if (caller == null || callee == null) {
            return;
        }
        calls.computeIfAbsent(caller, method -> new LinkedHashSet<>()).add(callee);
    }

    /** Which method it is shows only when it is called: it leads to each one that stands in for it. */
    private void addOverriding(Program program) {
        for (ExecutableElement method : calls.keySet()) {
            for (ExecutableElement other : calls.keySet()) {
                if (program.elements.overrides(other, method, (TypeElement) other.getEnclosingElement())) {
                    calls.get(method).add(other);
                }
            }
        }
    }

    List<ExecutableElement> face() {
        List<ExecutableElement> face = new ArrayList<>();
        for (ExecutableElement method : calls.keySet()) {
            if (method.getEnclosingElement().toString().equals(Program.FACE)
                    && method.getModifiers().contains(Modifier.PUBLIC)) {
                face.add(method);
            }
        }
        return face;
    }

    /** The longest chain of calls from a method on in which none is called twice, itself included. */
    List<ExecutableElement> longestChain(ExecutableElement method) {
        return longestChain(method, new LinkedHashSet<>());
    }

    private List<ExecutableElement> longestChain(ExecutableElement method, Set<ExecutableElement> open) {
        List<ExecutableElement> longest = new ArrayList<>();
        open.add(method);
        for (ExecutableElement callee : calls.getOrDefault(method, Set.of())) {
            if (!open.contains(callee)) {
                List<ExecutableElement> chain = longestChain(callee, open);
                longest = chain.size() > longest.size() ? chain : longest;
            }
        }
        open.remove(method);
        // One without a body is not open itself: the one that stands in for it is.
        if (!method.getModifiers().contains(Modifier.ABSTRACT)) {
            longest.add(0, method);
        }
        return longest;
    }

    /** All that a method calls, by whatever way that does not lead through one of those. */
    private Set<ExecutableElement> reachedFrom(ExecutableElement method, Set<ExecutableElement> closed) {
        Set<ExecutableElement> reached = new LinkedHashSet<>();
        List<ExecutableElement> left = new ArrayList<>(calls.getOrDefault(method, Set.of()));
        while (!left.isEmpty()) {
            ExecutableElement next = left.remove(left.size() - 1);
            if (!closed.contains(next) && reached.add(next)) {
                left.addAll(calls.getOrDefault(next, Set.of()));
            }
        }
        return reached;
    }

    /** The methods that can come to call themselves by a way that does not lead through one of those. */
    Set<ExecutableElement> recursiveWithout(Set<ExecutableElement> closed) {
        Set<ExecutableElement> recursive = new LinkedHashSet<>();
        for (ExecutableElement method : calls.keySet()) {
            if (reachedFrom(method, closed).contains(method)) {
                recursive.add(method);
            }
        }
        return recursive;
    }

    Set<String> thrownFrom(ExecutableElement method) {
        Set<String> found = new TreeSet<>(thrown.getOrDefault(method, Set.of()));
        for (ExecutableElement reached : reachedFrom(method, Set.of())) {
            found.addAll(thrown.getOrDefault(reached, Set.of()));
        }
        return found;
    }
}
