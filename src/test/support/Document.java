import java.io.IOException;
import java.nio.charset.StandardCharsets;
import java.nio.file.Files;
import java.nio.file.Path;
import java.nio.file.Paths;
import java.util.ArrayList;
import java.util.BitSet;
import java.util.LinkedHashMap;
import java.util.List;
import java.util.Map;

/** The sections of ../shared/DOC.md, and which of their signs a test has been about. */
final class Document {
    private static final Path FILE = Paths.get("../shared/DOC.md");

    private final Map<String, String> texts = new LinkedHashMap<>();
    private final Map<String, BitSet> tested = new LinkedHashMap<>();

    Document() throws IOException {
        if (!Files.exists(FILE)) {
            System.out.println(FILE + " is not here: the sentences of the tests are not compared with it");
            return;
        }
        String heading = "";
        for (String line : Files.readAllLines(FILE, StandardCharsets.UTF_8)) {
            if (line.startsWith("#")) {
                heading = line.replaceAll("^#+ ", "").replaceAll("^(Promise \\d+):.*", "$1");
            } else if (!line.isEmpty() && !line.startsWith("```")) {
                texts.merge(heading, line.trim() + "\n", String::concat);
            }
        }
        for (String section : texts.keySet()) {
            tested.put(section, new BitSet());
        }
    }

    /** Notes that a test is about a sentence; answers whether it stands in that section. */
    boolean take(String section, String sentence) {
        if (texts.isEmpty()) {
            return true;
        }
        String text = texts.getOrDefault(section, "");
        int at = text.indexOf(sentence);
        if (at < 0) {
            return false;
        }
        tested.get(section).set(at, at + sentence.length());
        return true;
    }

    /** What no test has been about, of the sections that say what the class does. */
    List<String> untested() {
        List<String> untested = new ArrayList<>();
        for (String section : texts.keySet()) {
            if (section.matches("Promise \\d+|Terms|Questions|Plans|Runs|Exceptions")) {
                addUntested(section, untested);
            }
        }
        return untested;
    }

    private void addUntested(String section, List<String> untested) {
        String text = texts.get(section);
        BitSet done = tested.get(section);
        for (int from = done.nextClearBit(0); from < text.length();) {
            int to = done.nextSetBit(from);
            to = to < 0 ? text.length() : to;
            String left = text.substring(from, to).trim();
            // What is left between two sentences is a space, a comma or a semicolon.
            if (left.matches("(?s).*[A-Za-z0-9].*")) {
                untested.add(section + ": " + left);
            }
            from = done.nextClearBit(to);
        }
    }
}
