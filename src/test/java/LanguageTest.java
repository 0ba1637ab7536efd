import java.io.IOException;
import java.nio.charset.StandardCharsets;
import java.nio.file.Files;
import java.nio.file.Paths;
import java.util.regex.Matcher;
import java.util.regex.Pattern;

/** Rules of LANGUAGE.md that can be looked for in the text of the program. */
public final class LanguageTest {
    private static final Checks CHECKS = new Checks("LanguageTest");
    private static final String SOURCE = "src/main/java/PostingPlanner.java";

    public static void main(String[] args) throws IOException {
        String source = new String(Files.readAllBytes(Paths.get(SOURCE)), StandardCharsets.UTF_8);
        String code = withoutCommentsAndTexts(source);
        absent(source, "rule 4", "[^\\n\\x20-\\x7e]");
        absent(code, "no package line", "\\bpackage\\b");
        absent(code, "rule 2", "->|::|\\bnon-sealed\\b");
        absent(code, "rule 3", "\\bnew\\s+\\w+\\s*\\[[^]]*\\]\\s*\\[[^]]*\\]\\s*\\[");
        absent(code, "rule 4, imports",
                "import (?!java\\.util\\.(Arrays|ArrayList|List|Iterator|NoSuchElementException);)");
        absent(code, "rule 4, calls", "\\w+Exact\\b|\\bSystem\\.(?!arraycopy)|\\bString\\.|\\bObject\\b|\\bThread\\b");
        absent(code, "rule 5", "\\bstatic\\s*\\{|\\bstatic(?! final)\\s+\\w+(\\[\\])?\\s+\\w+\\s*[=;]");
        absent(code, "rule 6", "\\b(try|catch|finally|synchronized|assert|throw (?!new ))\\b");
        absent(code, "rule 6, exceptions", "throw new (?!(IllegalState|IllegalArgument|IndexOutOfBounds)Exception\\()");
        absent(code, "rule 6, objects", "\\b(equals|hashCode|toString)\\b");
        absent(code, "rule 9", "while\\s*\\(true\\)|for\\s*\\(;");
        absent(code, "rule 10, joining", "\"\"\\s*\\+|\\+\\s*\"\"");
        absent(code, "annotations are not listed", "@\\w+");
        methods(code);
        CHECKS.end();
    }

    private static String withoutCommentsAndTexts(String source) {
        return source.replaceAll("(?s)/\\*.*?\\*/", "").replaceAll("//[^\\n]*", "")
                .replaceAll("\"[^\"\\n]*\"", "\"\"");
    }

    private static void absent(String text, String rule, String pattern) {
        CHECKS.topic(rule);
        Matcher matcher = Pattern.compile(pattern).matcher(text);
        CHECKS.same("looking for " + pattern, matcher.find() ? matcher.group() : "nothing", "nothing");
    }

    private static void methods(String code) {
        CHECKS.topic("rule 11");
        String head = "(?m)^( {4}| {8})(?=\\S)(?!if|for|while|switch)[\\w\\[\\] ]+\\(([^)]*)\\)[^;{]*\\{$";
        Matcher heads = Pattern.compile(head).matcher(code);
        int found = 0;
        while (heads.find()) {
            found++;
            int end = code.indexOf("\n" + heads.group(1) + "}", heads.end());
            long lines = end < 0 ? 1000 : code.substring(heads.start(), end).lines().count();
            String method = heads.group().trim().replace('\n', ' ');
            CHECKS.same(method + " is short", lines <= 60, true);
            CHECKS.same(method + " takes seven parameters at most", heads.group(2).split(",").length <= 7, true);
        }
        CHECKS.same("methods were found", found > 21, true);
    }
}
