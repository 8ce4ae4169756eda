import java.io.IOException;
import java.lang.management.ManagementFactory;
import java.lang.reflect.Constructor;
import java.lang.reflect.Field;
import java.lang.reflect.Method;
import java.lang.reflect.Modifier;
import java.nio.charset.StandardCharsets;
import java.nio.file.Files;
import java.nio.file.Path;
import java.util.Set;
import java.util.TreeSet;
import java.util.regex.Matcher;
import java.util.regex.Pattern;

/** The face of the document, and what of LANGUAGE.md a test can see. */
public final class RulesTest {
    private static final Path SOURCE = Path.of("src/main/java/AmberGrains.java");
    private static final String[] FACE = {
        "int teller(int,int,int)", "int of(int,int)", "int tell(int)", "int weigh(int,int)", "int put(int,int,int)",
        "int sea(int,int)", "int row(int,int,int)", "int feed(int)", "int chart()", "int told(int)", "int pass(int)",
        "int on(int,int)", "int begin(int,int)", "int see(int,int,int)", "int weights(int)", "int can(int,int)",
        "long odds(int,int,int)", "long mean(int)", "int plan(int,int)", "int ends(int)", "int book(int,int)",
        "int looked()", "int judge(int,int)", "int image()", "int undo()", "int act(int,int,int)", "int trace(int)",
        "int taken(int,int)", "int count(int)", "int tape(int,int,int)", "int item(int,int,long)",
        "long read(int,int)", "int shift(int,int,int,int,int)",
    };
    private static final String[] NOT_THERE = {
        "\\bthrows?\\b", "\\btry\\b", "\\bcatch\\b", "\\bsynchronized\\b", "\\bassert\\b", "->", "::", "@",
        "\\bdouble\\b", "\\bfloat\\b", "\\bstatic\\s*\\{", "\\bSystem\\.(?!arraycopy)", "\\bThread\\b", "\\bRandom\\b",
        "Exact\\b", "\\bobject\\.", "\\bpackage\\b", "\\bhashCode\\b", "\\bequals\\b", "\\btoString\\b", "\\bvar\\b",
        "\\bprotected\\b", "\\binstanceof\\b", "\\bgetClass\\b", "\\bInteger\\.[A-Z]",
    };
    private static int wrong = 0;

    public static void main(String[] args) throws IOException {
        face();
        nested();
        source();
        nothingIsThrown();
        callsMakeNothing();
        System.out.println(wrong == 0 ? "the rules are kept" : wrong + " rules are not kept");
        if (wrong != 0) {
            System.exit(1);
        }
    }

    private static void due(String what, boolean holds) {
        if (!holds) {
            wrong++;
            System.out.println("not so: " + what);
        }
    }

    private static void face() {
        Class<?> c = AmberGrains.class;
        due("the class is public and final", Modifier.isPublic(c.getModifiers()) && Modifier.isFinal(c.getModifiers()));
        Set<String> want = new TreeSet<>(Set.of(FACE));
        Set<String> got = new TreeSet<>();
        Set<String> names = new TreeSet<>();
        for (Method m : c.getDeclaredMethods()) {
            if (Modifier.isPublic(m.getModifiers())) {
                String all = m.toGenericString().replace("public ", "").replace("AmberGrains.", "");
                got.add(all);
                names.add(m.getName());
            } else {
                due(m + " is private", Modifier.isPrivate(m.getModifiers()));
            }
        }
        due("the methods are " + want + ", not " + got, got.equals(want));
        for (Method m : c.getDeclaredMethods()) {
            due(m + " bears no public name", Modifier.isPublic(m.getModifiers()) || !names.contains(m.getName()));
        }
        for (Class<?> inside : c.getDeclaredClasses()) {
            for (Method m : inside.getDeclaredMethods()) {
                due(m + " bears no public name", !names.contains(m.getName()));
            }
        }
        Constructor<?>[] made = c.getDeclaredConstructors();
        due("one public constructor without arguments", made.length == 1
            && Modifier.isPublic(made[0].getModifiers()) && made[0].getParameterCount() == 0);
        Set<String> constants = new TreeSet<>();
        for (Field f : c.getDeclaredFields()) {
            int m = f.getModifiers();
            if (Modifier.isPublic(m)) {
                constants.add(f.getType() + " " + f.getName());
                due(f + " is a constant", Modifier.isStatic(m) && Modifier.isFinal(m));
            } else {
                due(f + " is private", Modifier.isPrivate(m));
            }
        }
        due("the constants", constants.equals(Set.of("int NONE", "int BAD", "int STATE", "int FULL", "long NO")));
    }

    private static void nested() {
        Class<?>[] inside = AmberGrains.class.getDeclaredClasses();
        due("some twelve classes", inside.length < 12);
        fields(AmberGrains.class);
        for (Class<?> c : inside) {
            due(c + " is static", Modifier.isStatic(c.getModifiers()));
            fields(c);
        }
    }

    private static void fields(Class<?> c) {
        int own = 0;
        for (Field f : c.getDeclaredFields()) {
            if (Modifier.isStatic(f.getModifiers())) {
                due(f + " is final", Modifier.isFinal(f.getModifiers()));
            } else {
                own++;
            }
        }
        due(c + " has some twenty fields", own <= 20);
    }

    private static void source() throws IOException {
        String all = Files.readString(SOURCE, StandardCharsets.UTF_8);
        due("signs are 9 to 126", all.chars().allMatch(s -> s < 127));
        String code = all.replaceAll("/\\*(?s:.*?)\\*/", "").replaceAll("//[^\n]*", "").replaceAll("\"[^\"]*\"", "\"\"");
        for (String word : NOT_THERE) {
            due(word + " stands nowhere", !Pattern.compile(word).matcher(code).find());
        }
        Matcher imports = Pattern.compile("\\bimport ([^;]*);").matcher(code);
        while (imports.find()) {
            due("import " + imports.group(1), imports.group(1).matches("java\\.util\\.(Arrays|ArrayList|List)"));
        }
        int begin = 0;
        String[] lines = all.split("\n");
        for (int i = 0; i < lines.length; i++) {
            if (lines[i].matches(" {4}(?: {4})?[a-zA-Z].*\\) \\{")) {
                begin = i;
            }
            if (lines[i].matches(" {4}(?: {4})?\\}")) {
                due("the method at line " + (begin + 1) + " is short", i - begin <= 60);
            }
            due("line " + (i + 1) + " is short", lines[i].length() <= 120);
        }
    }

    private static final int[] FAR = {Integer.MIN_VALUE, Integer.MIN_VALUE + 1, -14, -2, -1, 0, 1, 2, 3, 4, 5, 6, 7, 9,
        10, 11, 12, 13, 20, 21, 25, 26, 59, 60, 61, 99, 100, 127, 128, 4095, 4096, 9999, Integer.MAX_VALUE - 1,
        Integer.MAX_VALUE};

    private static AmberGrains filled() {
        AmberGrains x = new AmberGrains();
        int[] kinds = {6, 4, 5, 3, 1, 2};
        for (int kind : kinds) {
            x.teller(kind, 9, 20);
        }
        String text = "sour 9 ((((p<9|k=5&v>1))))&!!!!a<5;sweet 9 d=1;room 40";
        for (int i = 0; i < text.length(); i++) {
            x.feed(text.charAt(i));
        }
        x.chart();
        for (int p = 0; p < 6; p++) {
            x.tell(p);
            x.see(p, 12, 1);
            x.book(p, 0);
            x.plan(0, 0);
            x.plan(2, p);
            x.tape(p, p % 5, 60);
        }
        x.image();
        return x;
    }

    /** Each call by each far number at each place, on new objects and on full ones. */
    private static void nothingIsThrown() {
        for (int a : FAR) {
            for (int b : FAR) {
                AmberGrains x = (a ^ b) % 2 == 0 ? filled() : new AmberGrains();
                two(x, a, b);
                three(x, a, b, FAR[Math.floorMod(a * 31 + b, FAR.length)]);
                three(x, b, FAR[Math.floorMod(a + b, FAR.length)], a);
                x.shift(a, 0, b, 0, 60);
                x.shift(0, a, 0, b, 1);
                x.shift(0, a, 0, 0, b);
                x.shift(0, 0, 0, a, b);
                x.undo();
                one(x, a);
            }
        }
    }

    private static void one(AmberGrains x, int a) {
        x.tell(a);
        x.feed(a);
        x.told(a);
        x.pass(a);
        x.weights(a);
        x.mean(a);
        x.ends(a);
        x.trace(a);
        x.count(a);
        x.looked();
        x.image();
        x.undo();
    }

    private static void two(AmberGrains x, int a, int b) {
        x.of(a, b);
        x.weigh(a, b);
        x.sea(a, b);
        x.on(a, b);
        x.begin(a, b);
        x.can(a, b);
        x.plan(a, b);
        x.book(a, b);
        x.judge(a, b);
        x.taken(a, b);
        x.read(a, b);
    }

    private static void three(AmberGrains x, int a, int b, int c) {
        x.teller(a, b, c);
        x.put(a, b, c);
        x.row(a, b, c);
        x.see(a, b, c);
        x.odds(a, b, c);
        x.act(a, b, c);
        x.tape(a, b, c);
        x.item(a, b, c);
    }

    /** The room of a run is small: but for its SEAS, an object makes nothing after it has been made. */
    private static void callsMakeNothing() {
        var threads = (com.sun.management.ThreadMXBean) ManagementFactory.getThreadMXBean();
        AmberGrains x = filled();
        long begin = 0;
        for (int round = 0; round < 3; round++) {
            begin = threads.getCurrentThreadAllocatedBytes();
            for (int a : FAR) {
                one(x, a);
                two(x, a, 0);
                two(x, 0, a);
                three(x, 0, 0, a);
                x.shift(0, 0, 0, a, 1);
            }
            x.chart();
        }
        long made = threads.getCurrentThreadAllocatedBytes() - begin;
        due("nothing is made by calls, not " + made + " bytes", made < 200);
    }
}
