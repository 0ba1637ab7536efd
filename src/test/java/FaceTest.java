import java.lang.reflect.Constructor;
import java.lang.reflect.Field;
import java.lang.reflect.Method;
import java.lang.reflect.Modifier;
import java.util.ArrayList;
import java.util.Arrays;
import java.util.Collections;
import java.util.List;

/** The face as the document has it, and rules 1 and 5 of LANGUAGE.md as far as reflection can see them. */
public final class FaceTest {
    private static final Checks CHECKS = new Checks("FaceTest");

    private static final String[] METHODS = {
        "boolean put(int, int) throws IndexOutOfBoundsException, IllegalArgumentException",
        "boolean drop(int) throws IndexOutOfBoundsException",
        "int documents()",
        "int count(int) throws IndexOutOfBoundsException",
        "int ask(int, int) throws IllegalArgumentException",
        "int clause(int, int, boolean) throws IllegalArgumentException, IllegalStateException",
        "int literal(int, int, boolean) throws IndexOutOfBoundsException, IllegalStateException",
        "boolean matches(int) throws IndexOutOfBoundsException",
        "int hits()",
        "int planKind()",
        "int planNeed()",
        "int planSize()",
        "int estimate()",
        "int clauseAt(int) throws IllegalArgumentException",
        "int kindAt(int) throws IllegalArgumentException",
        "int estimateAt(int) throws IllegalArgumentException",
        "int literalAt(int, int) throws IllegalArgumentException",
        "int begin()",
        "int leap(int) throws IndexOutOfBoundsException, IllegalStateException",
        "int next() throws IllegalStateException",
        "int readings() throws IllegalStateException",
    };

    public static void main(String[] args) {
        constants();
        methods();
        nothingElse();
        CHECKS.end();
    }

    private static void constants() {
        CHECKS.topic("constants");
        CHECKS.same("NONE", PostingPlanner.NONE, -1);
        CHECKS.same("ALL", PostingPlanner.ALL, 0);
        CHECKS.same("ANY", PostingPlanner.ANY, 1);
        CHECKS.same("SOME", PostingPlanner.SOME, 2);
        CHECKS.same("ALWAYS", PostingPlanner.ALWAYS, 3);
        CHECKS.same("NEVER", PostingPlanner.NEVER, 4);
        List<String> names = new ArrayList<>();
        for (Field field : PostingPlanner.class.getDeclaredFields()) {
            if (Modifier.isPublic(field.getModifiers())) {
                names.add(field.getName());
            }
        }
        CHECKS.same("the public fields", names.toString(), "[NONE, ALL, ANY, SOME, ALWAYS, NEVER]");
    }

    private static void methods() {
        CHECKS.topic("methods");
        List<String> found = new ArrayList<>();
        for (Method method : PostingPlanner.class.getDeclaredMethods()) {
            if (Modifier.isPublic(method.getModifiers())) {
                found.add(signature(method));
            }
        }
        List<String> due = new ArrayList<>(Arrays.asList(METHODS));
        Collections.sort(found);
        Collections.sort(due);
        CHECKS.same("the public methods", found.toString(), due.toString());
    }

    private static String signature(Method method) {
        String signature = method.getReturnType() + " " + method.getName() + "(" + simple(method.getParameterTypes())
                + ")";
        String thrown = simple(method.getExceptionTypes());
        return (Modifier.isStatic(method.getModifiers()) ? "static " : "") + signature
                + (thrown.isEmpty() ? "" : " throws " + thrown);
    }

    private static String simple(Class<?>[] types) {
        List<String> names = new ArrayList<>();
        for (Class<?> type : types) {
            names.add(type.getSimpleName());
        }
        return String.join(", ", names);
    }

    private static void nothingElse() {
        CHECKS.topic("rules 1 and 5");
        Class<?> face = PostingPlanner.class;
        CHECKS.same("public and final", Modifier.toString(face.getModifiers()), "public final");
        CHECKS.same("its package", face.getPackageName(), "");
        CHECKS.same("constructors", face.getDeclaredConstructors().length, 1);
        for (Constructor<?> constructor : face.getDeclaredConstructors()) {
            CHECKS.same("the constructor", constructor.toString(), "public PostingPlanner()");
        }
        for (Method method : face.getDeclaredMethods()) {
            int modifiers = method.getModifiers();
            CHECKS.same(method + " is public or private",
                    Modifier.isPublic(modifiers) || Modifier.isPrivate(modifiers), true);
        }
        CHECKS.same("methods of the same name", sameNames(face), "[]");
        for (Class<?> inside : face.getDeclaredClasses()) {
            int modifiers = inside.getModifiers();
            CHECKS.same(inside + " is static", Modifier.isStatic(modifiers), true);
            CHECKS.same(inside + " is not public",
                    Modifier.isPublic(modifiers) || Modifier.isProtected(modifiers), false);
            fieldsOf(inside);
        }
        fieldsOf(face);
        CHECKS.same("at most twelve classes", face.getDeclaredClasses().length < 12, true);
    }

    private static void fieldsOf(Class<?> owner) {
        for (Field field : owner.getDeclaredFields()) {
            int modifiers = field.getModifiers();
            CHECKS.same(field + " is final, if static", !Modifier.isStatic(modifiers) || Modifier.isFinal(modifiers),
                    true);
            if (owner == PostingPlanner.class) {
                CHECKS.same(field + " is public static or private",
                        Modifier.isPrivate(modifiers) || Modifier.isPublic(modifiers) && Modifier.isStatic(modifiers),
                        true);
            }
        }
    }

    private static String sameNames(Class<?> face) {
        List<String> names = new ArrayList<>();
        List<String> twice = new ArrayList<>();
        for (Method method : face.getDeclaredMethods()) {
            if (names.contains(method.getName())) {
                twice.add(method.getName());
            }
            names.add(method.getName());
        }
        return twice.toString();
    }
}
