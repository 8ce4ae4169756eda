import java.io.IOException;
import java.nio.file.Files;
import java.nio.file.Path;
import java.util.ArrayList;
import java.util.LinkedHashMap;
import java.util.List;
import java.util.Map;
import java.util.regex.Matcher;
import java.util.regex.Pattern;
import java.util.stream.Stream;

/**
 * The remarks of the tests of edges: each test says which promise and which sentence it holds, the sentence stands in
 * the document, and no sentence of it is left without a test.
 */
public final class RemarksTest {
    private static final Path TESTS = Path.of("src/test/java");
    private static final Path DOCUMENT = Path.of("../shared/DOC.md");
    private static final Pattern TEST = Pattern.compile("    private static void (\\w+)\\(\\) \\{");
    private static final Pattern REMARK =
        Pattern.compile("Promise (\\d+)(?: \\((Terms [123]|Answers)\\))?: \"([^\"]*)\"");

    /** By its name, a part of the document, and which of its signs stand in a remark. */
    private static final Map<String, String> PARTS = new LinkedHashMap<>();
    private static final Map<String, boolean[]> HELD = new LinkedHashMap<>();
    private static int wrong = 0;

    public static void main(String[] args) throws IOException {
        readDocument();
        int tests = 0;
        try (Stream<Path> all = Files.list(TESTS)) {
            for (Path file : all.sorted().toList()) {
                if (file.getFileName().toString().endsWith("EdgesTest.java")) {
                    tests += readTests(file);
                }
            }
        }
        PARTS.forEach(RemarksTest::leftOut);
        due("some tests have remarks", tests > 200);
        System.out.println(tests + " remarks, " + wrong + " wrong or not there");
        if (wrong != 0) {
            System.exit(1);
        }
    }

    private static void due(String what, boolean holds) {
        if (!holds) {
            wrong++;
            System.out.println("not so: " + what);
        }
    }

    // ---- the document

    private static void readDocument() throws IOException {
        String all = Files.readString(DOCUMENT);
        for (int n = 1; n <= 34; n++) {
            String part = behind(all, "## Promise " + n + ":", "\n## ");
            // What stands behind the call itself.
            keep("Promise " + n, part.substring(part.indexOf("`: ") + 3));
        }
        keep("Terms 1", behind(all, "==== 1", "==== 2"));
        keep("Terms 2", behind(all, "==== 2", "==== 3"));
        keep("Terms 3", behind(all, "==== 3", "Answers: "));
        keep("Answers", behind(all, "Answers: ", "The constants: "));
    }

    private static String behind(String all, String begin, String end) {
        int from = all.indexOf(begin) + begin.length();
        return all.substring(from, all.indexOf(end, from));
    }

    private static String folded(String text) {
        return text.replace("```text", " ").replace("```", " ").replaceAll("\\s+", " ").trim();
    }

    private static void keep(String name, String text) {
        PARTS.put(name, folded(text));
        HELD.put(name, new boolean[folded(text).length()]);
    }

    // ---- the remarks

    private static int readTests(Path file) throws IOException {
        List<String> remark = new ArrayList<>();
        int tests = 0;
        for (String line : Files.readAllLines(file)) {
            Matcher test = TEST.matcher(line);
            if (test.matches()) {
                readRemark(file.getFileName() + ", " + test.group(1), String.join(" ", remark));
                tests++;
            }
            if (line.startsWith("    // ")) {
                remark.add(line.substring(7));
            } else {
                remark.clear();
            }
        }
        return tests;
    }

    private static void readRemark(String test, String remark) {
        Matcher m = REMARK.matcher(remark);
        int many = 0;
        while (m.find()) {
            many++;
            due(test + ": there is a promise " + m.group(1), PARTS.containsKey("Promise " + m.group(1)));
            String part = m.group(2) == null ? "Promise " + m.group(1) : m.group(2);
            hold(test, part, m.group(3));
        }
        due(test + " says which promise and which sentence it holds", many > 0);
    }

    private static void hold(String test, String part, String words) {
        String text = PARTS.getOrDefault(part, "");
        int at = text.indexOf(words);
        due(test + ": \"" + words + "\" stands in " + part, at >= 0 && !words.isEmpty());
        for (; at >= 0 && !words.isEmpty(); at = text.indexOf(words, at + 1)) {
            for (int i = at; i < at + words.length(); i++) {
                HELD.get(part)[i] = true;
            }
        }
    }

    private static void leftOut(String part, String text) {
        StringBuilder left = new StringBuilder();
        for (int i = 0; i <= text.length(); i++) {
            if (i < text.length() && !HELD.get(part)[i]) {
                left.append(text.charAt(i));
            } else {
                String words = left.toString().trim();
                due("\"" + words + "\" of " + part + " stands in a remark", !words.matches(".*[A-Za-z0-9].*"));
                left.setLength(0);
            }
        }
    }
}
