import java.io.IOException;
import java.io.StringWriter;
import java.lang.reflect.Method;
import java.lang.reflect.Modifier;
import java.net.URL;
import java.net.URLClassLoader;
import java.nio.file.Files;
import java.nio.file.Path;
import java.util.ArrayList;
import java.util.List;
import java.util.Set;
import java.util.TreeSet;
import java.util.regex.Matcher;
import java.util.regex.Pattern;
import java.util.stream.Stream;
import javax.tools.JavaCompiler;
import javax.tools.StandardJavaFileManager;
import javax.tools.ToolProvider;

/** What README.md says holds: its examples answer as their remarks tell, and its tests are there and run. */
public final class ReadmeTest {
    private static final Path README = Path.of("README.md");
    private static final Path TESTS = Path.of("src/test/java");
    // A call, kept by a name or not, and the remark that begins with what it answers.
    private static final Pattern ANSWERED =
        Pattern.compile("((?:int|long) (\\w+) = )?(x\\.\\w+\\(.*\\)); *// (-?\\d+|[A-Z]+)(?:: .*)?");
    private static int wrong = 0;

    public static void main(String[] args) throws Exception {
        String all = Files.readString(README);
        List<String> examples = blocks(all, "java");
        due("some examples", examples.size() > 4);
        examplesAnswer(examples);
        eachCallIsShown(String.join("\n", examples));
        theConstantsAreNamed(all);
        theTestsAreNamed(all);
        theTestsRun(blocks(all, "sh"));
        System.out.println(wrong == 0 ? "README.md holds" : wrong + " times README.md does not hold");
        if (wrong != 0) {
            System.exit(1);
        }
    }

    private static void due(String what, boolean holds) {
        if (!holds) {
            wrong++;
            System.out.println("not so: " + what);
        }
    }

    private static List<String> blocks(String all, String language) {
        List<String> found = new ArrayList<>();
        Matcher m = Pattern.compile("```" + language + "\n(.*?)```", Pattern.DOTALL).matcher(all);
        while (m.find()) {
            found.add(m.group(1));
        }
        return found;
    }

    // ---- the examples, compiled and run as one

    private static void examplesAnswer(List<String> examples) throws Exception {
        StringBuilder code = new StringBuilder("public final class Shown {\n"
            + "  public static void run(java.util.function.BiConsumer<String, long[]> due) {\n");
        int answers = 0;
        for (String line : String.join("\n", examples).split("\n")) {
            Matcher m = ANSWERED.matcher(line.trim());
            if (m.matches()) {
                code.append(checked(m));
                answers++;
            } else {
                due("a remark that begins with an answer: " + line, !line.matches("[^ ].*; *//.*"));
                code.append(line).append('\n');
            }
        }
        code.append("  }\n}\n");
        due("some answers", answers > 60);
        Method run = compiled(code.toString()).getMethod("run", java.util.function.BiConsumer.class);
        java.util.function.BiConsumer<String, long[]> asDue = ReadmeTest::asDue;
        run.invoke(null, asDue);
    }

    private static String checked(Matcher m) {
        String want = m.group(4).matches("[A-Z]+") ? "AmberGrains." + m.group(4) : m.group(4) + "L";
        String got = m.group(1) == null ? m.group(3) : m.group(2);
        String first = m.group(1) == null ? "" : m.group(1) + m.group(3) + ";\n";
        return first + "due.accept(\"" + m.group(3).replace("\"", "\\\"") + "\", new long[] {" + got + ", " + want + "});\n";
    }

    private static void asDue(String call, long[] gotAndWant) {
        due(call + " answers " + gotAndWant[1] + " and not " + gotAndWant[0], gotAndWant[0] == gotAndWant[1]);
    }

    private static Class<?> compiled(String code) throws Exception {
        Path out = Files.createTempDirectory("readme");
        Path file = out.resolve("Shown.java");
        Files.writeString(file, code);
        JavaCompiler javac = ToolProvider.getSystemJavaCompiler();
        StringWriter told = new StringWriter();
        try (StandardJavaFileManager files = javac.getStandardFileManager(null, null, null)) {
            List<String> how = List.of("-d", out.toString(), "-cp", System.getProperty("java.class.path"));
            due("the examples compile", javac.getTask(told, files, null, how, null, files.getJavaFileObjects(file)).call());
        }
        System.out.print(told);
        return new URLClassLoader(new URL[] {out.toUri().toURL()}, ReadmeTest.class.getClassLoader()).loadClass("Shown");
    }

    // ---- what is named

    private static void eachCallIsShown(String examples) {
        for (Method m : AmberGrains.class.getDeclaredMethods()) {
            if (Modifier.isPublic(m.getModifiers())) {
                due(m.getName() + " is shown", examples.contains("x." + m.getName() + "("));
            }
        }
    }

    private static void theConstantsAreNamed(String all) {
        due("NONE", all.contains("`AmberGrains.NONE` (" + AmberGrains.NONE + ")"));
        due("BAD", all.contains("`AmberGrains.BAD` (" + AmberGrains.BAD + ")"));
        due("STATE", all.contains("`AmberGrains.STATE` (" + AmberGrains.STATE + ")"));
        due("FULL", all.contains("`AmberGrains.FULL` (" + AmberGrains.FULL + ")"));
        due("NO", all.contains("`AmberGrains.NO` (`Long.MIN_VALUE`)") && AmberGrains.NO == Long.MIN_VALUE);
    }

    private static void theTestsAreNamed(String all) throws IOException {
        Set<String> named = new TreeSet<>();
        Matcher m = Pattern.compile("`(\\w+Test)`").matcher(all);
        while (m.find()) {
            named.add(m.group(1));
        }
        Set<String> there = new TreeSet<>();
        try (Stream<Path> files = Files.list(TESTS)) {
            for (Path file : files.toList()) {
                String name = file.getFileName().toString().replace(".java", "");
                if (name.endsWith("Test")) {
                    there.add(name);
                }
            }
        }
        due("the tests are " + there + ", not " + named, named.equals(there));
    }

    // ---- how the tests are run

    private static void theTestsRun(List<String> commands) throws Exception {
        due("two ways to run tests are shown", commands.size() == 2);
        due("the first is this one", commands.get(0).trim().equals(".ci/run"));
        due("it can be run", Files.isExecutable(Path.of(".ci/run")));
        Process one = new ProcessBuilder("sh", "-c", commands.get(1)).redirectErrorStream(true).start();
        String told = new String(one.getInputStream().readAllBytes());
        due("one test alone runs: " + told, one.waitFor() == 0);
    }
}
