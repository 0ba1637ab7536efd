import com.sun.source.tree.ExpressionTree;
import com.sun.source.tree.MethodTree;
import com.sun.source.tree.VariableTree;
import com.sun.source.util.TreePath;
import java.io.IOException;
import java.lang.reflect.Field;
import java.lang.reflect.Modifier;
import java.net.URL;
import java.net.URLClassLoader;
import java.nio.charset.StandardCharsets;
import java.nio.file.DirectoryStream;
import java.nio.file.Files;
import java.nio.file.Path;
import java.nio.file.Paths;
import java.util.ArrayList;
import java.util.List;
import java.util.function.Supplier;
import java.util.regex.Matcher;
import java.util.regex.Pattern;
import javax.lang.model.element.ExecutableElement;
import javax.tools.ToolProvider;

/** README.md tells of every method and constant, its example answers what it says, and it names every test. */
public final class ReadmeTest {
    private static final Checks CHECKS = new Checks("ReadmeTest");
    private static final Path FOLDER = Paths.get("build/readme");

    public static void main(String[] args) throws Exception {
        String readme = new String(Files.readAllBytes(Paths.get("README.md")), StandardCharsets.UTF_8);
        methods(readme);
        constants(readme);
        example(readme);
        tests(readme);
        CHECKS.end();
    }

    private static void methods(String readme) throws IOException {
        CHECKS.topic("the tables of README.md");
        Program program = new Program();
        List<ExecutableElement> face = new CallGraph(program).face();
        CHECKS.same("methods of the face, the constructor included", face.size(), 22);
        for (TreePath piece : program.all(MethodTree.class)) {
            if (face.contains(program.elementOf(piece))) {
                row(readme, (MethodTree) piece.getLeaf());
            }
        }
    }

    /** A row is: the method | what it takes | what it answers | what it throws. */
    private static void row(String readme, MethodTree method) {
        String head = head(method);
        int at = readme.indexOf("| `" + head + "` | ");
        CHECKS.same("a row for " + head, at >= 0, true);
        if (at < 0) {
            return;
        }
        String[] cells = readme.substring(at, readme.indexOf("\n", at)).split(" *\\| *");
        CHECKS.same("the cells of " + head, cells.length, 5);
        if (cells.length != 5) {
            return;
        }
        CHECKS.same("what " + head + " takes is told", !cells[2].equals("nothing"), !method.getParameters().isEmpty());
        CHECKS.same("what " + head + " answers is told", !cells[3].isEmpty() && !cells[3].equals("nothing"), true);
        CHECKS.same("what " + head + " throws", thrownIn(cells[4]), thrownBy(method));
    }

    private static String head(MethodTree method) {
        List<String> parameters = new ArrayList<>();
        for (VariableTree parameter : method.getParameters()) {
            parameters.add(parameter.getType() + " " + parameter.getName());
        }
        String name = method.getReturnType() == null ? Program.FACE : method.getReturnType() + " " + method.getName();
        return name + "(" + String.join(", ", parameters) + ")";
    }

    private static String thrownBy(MethodTree method) {
        List<String> names = new ArrayList<>();
        for (ExpressionTree thrown : method.getThrows()) {
            names.add(thrown.toString());
        }
        return names.isEmpty() ? "nothing" : String.join(", ", names);
    }

    private static String thrownIn(String cell) {
        List<String> names = new ArrayList<>();
        Matcher name = Pattern.compile("`(\\w+Exception)`: \\w+").matcher(cell);
        while (name.find()) {
            names.add(name.group(1));
        }
        return names.isEmpty() ? cell : String.join(", ", names);
    }

    private static void constants(String readme) throws IllegalAccessException {
        CHECKS.topic("the constants in README.md");
        for (Field field : PostingPlanner.class.getDeclaredFields()) {
            if (Modifier.isPublic(field.getModifiers())) {
                String row = "| `" + field.getName() + "` | " + field.getInt(null) + " | ";
                CHECKS.same("a row " + row, readme.contains(row), true);
            }
        }
    }

    /** Each line of the example that has a remark answers what the remark begins with. */
    private static void example(String readme) throws Exception {
        CHECKS.topic("the example in README.md");
        Matcher block = Pattern.compile("(?s)```java\n(.*?)```").matcher(readme);
        CHECKS.same("an example", block.find(), true);
        List<String> calls = new ArrayList<>();
        String source = sourceOf(block.group(1), calls);
        Files.createDirectories(FOLDER);
        Path file = FOLDER.resolve("ReadmeExample.java");
        Files.write(file, source.getBytes(StandardCharsets.UTF_8));
        int code = ToolProvider.getSystemJavaCompiler().run(null, null, null, "-proc:none", "-cp",
                System.getProperty("java.class.path"), "-d", FOLDER.toString(), file.toString());
        CHECKS.same("compiling the example", code, 0);
        if (code == 0) {
            compare(calls);
        }
    }

    private static void compare(List<String> calls) throws Exception {
        List<String> answers = new ArrayList<>();
        try (URLClassLoader loader = new URLClassLoader(new URL[] {FOLDER.toUri().toURL()})) {
            Supplier<?> example = (Supplier<?>) loader.loadClass("ReadmeExample").getConstructor().newInstance();
            for (Object answer : (List<?>) example.get()) {
                answers.add(answer.toString());
            }
        }
        CHECKS.same("answers and what is due", answers.size(), 2 * calls.size());
        for (int i = 0; i < calls.size(); i++) {
            CHECKS.same(calls.get(i), answers.get(2 * i), answers.get(2 * i + 1));
        }
        String called = calls.toString();
        for (String method : List.of("put", "drop", "documents", "count", "ask", "clause", "literal", "matches",
                "hits", "planKind", "planNeed", "planSize", "estimate", "clauseAt", "kindAt", "estimateAt",
                "literalAt", "begin", "leap", "next", "readings")) {
            CHECKS.same("the example calls " + method, called.contains("." + method + "("), true);
        }
    }

    private static String sourceOf(String example, List<String> calls) {
        StringBuilder body = new StringBuilder();
        for (String line : example.split("\n")) {
            Matcher due = Pattern.compile("^(\\w.*\\));\\s+// ([^:]+)(:.*)?$").matcher(line);
            if (due.find()) {
                calls.add(due.group(1));
                body.append("answers.add(\"\" + ").append(due.group(1)).append(");\n");
                body.append("answers.add(\"\" + (").append(due.group(2)).append("));\n");
            } else {
                body.append(line).append('\n');
            }
        }
        return "import java.util.*;\npublic class ReadmeExample implements java.util.function.Supplier<List<String>> {\n"
                + "public List<String> get() {\nList<String> answers = new ArrayList<>();\n" + body
                + "return answers;\n}\n}\n";
    }

    private static void tests(String readme) throws IOException {
        CHECKS.topic("the tests in README.md");
        for (String folder : List.of("src/test/java", "src/test/support")) {
            CHECKS.same(folder + " is named", readme.contains("`" + folder + "`"), true);
            try (DirectoryStream<Path> files = Files.newDirectoryStream(Paths.get(folder), "*.java")) {
                for (Path file : files) {
                    String name = file.getFileName().toString().replace(".java", "");
                    String told = name.endsWith("Boundaries") ? "...Boundaries" : name;
                    CHECKS.same(name + " is named", readme.contains("`" + told + "`"), true);
                }
            }
        }
        CHECKS.same("the limit of calls is named", readme.contains("at most 512 calls"), true);
    }
}
