import java.io.IOException;
import java.lang.reflect.Field;
import java.lang.reflect.Method;
import java.lang.reflect.Modifier;
import java.nio.file.Files;
import java.nio.file.Path;
import java.util.ArrayList;
import java.util.List;
import java.util.regex.Matcher;
import java.util.regex.Pattern;

/** What the document says ahead of its promises and behind them; the terms are RemarksTest's. */
public final class DocumentTest {
    private static final Path DOCUMENT = Path.of("../shared/DOC.md");
    private static final Path SOURCE = Path.of("src/main/java/AmberGrains.java");
    private static final int MOST_CALLS = 512;
    private static int wrong = 0;

    public static void main(String[] args) throws Exception {
        String document = Files.readString(DOCUMENT);
        String source = Files.readString(SOURCE);
        List<String> face = face(document);
        theFaceIsTheClass(face, source);
        nothingElseIsOpen(face);
        theConstantsAreAsTold(document);
        eachPromiseHasItsCall(document, face);
        theHeadingsStandAhead(document, source);
        anObjectIsUsedFor512Calls();
        twoObjectsShareNothing();
        System.out.println(wrong == 0 ? "the document's frame holds" : wrong + " times the document's frame does not hold");
        if (wrong != 0) {
            System.exit(1);
        }
    }

    private static void due(String what, boolean holds) {
        if (!holds) {
            wrong++;
            System.out.println("not so: " + what);
        }
    }

    // ---- "The public face"

    /** The constructor and the methods, as the face has them, without the ; at the end. */
    private static List<String> face(String document) {
        List<String> all = new ArrayList<>();
        Matcher m = Pattern.compile("\n    public ([^;=\n]*\\));").matcher(between(document, "```java", "```"));
        while (m.find()) {
            all.add(m.group(1));
        }
        due("the face has a constructor and 33 methods, not " + all.size(), all.size() == 34);
        return all;
    }

    private static String between(String all, String begin, String end) {
        int from = all.indexOf(begin);
        int to = all.indexOf(end, from + begin.length());
        due(begin + " stands in the document", from >= 0 && to >= 0);
        return all.substring(from + begin.length(), to);
    }

    private static void theFaceIsTheClass(List<String> face, String source) {
        due("the class", source.contains("\npublic final class AmberGrains {"));
        due("the class by itself", Modifier.isPublic(AmberGrains.class.getModifiers())
            && Modifier.isFinal(AmberGrains.class.getModifiers()));
        due("no package", AmberGrains.class.getPackageName().isEmpty());
        int at = 0;
        for (String call : face) {
            int here = source.indexOf("\n    public " + call + " {");
            due(call + " stands in the class as told, in this order", here > at);
            at = Math.max(at, here);
        }
    }

    private static void nothingElseIsOpen(List<String> face) {
        int open = AmberGrains.class.getDeclaredConstructors().length;
        for (Method m : AmberGrains.class.getDeclaredMethods()) {
            if (Modifier.isPublic(m.getModifiers())) {
                open++;
                due(m + " is an object's", !Modifier.isStatic(m.getModifiers()));
                due(m + " declares no exception", m.getExceptionTypes().length == 0);
            }
        }
        due("what is open is the face alone", open == face.size());
    }

    private static void theConstantsAreAsTold(String document) throws Exception {
        Matcher m = Pattern.compile("public static final (int|long) ([^;]*);").matcher(between(document, "```java", "```"));
        int told = 0;
        while (m.find()) {
            for (String one : m.group(2).split(", ")) {
                String[] parts = one.split(" = ");
                Field f = AmberGrains.class.getDeclaredField(parts[0]);
                long value = parts[1].equals("Long.MIN_VALUE") ? Long.MIN_VALUE : Long.parseLong(parts[1]);
                due(one + " of type " + m.group(1), f.getType().getName().equals(m.group(1)) && f.getLong(null) == value);
                due(one + " is open to all", Modifier.isPublic(f.getModifiers()) && Modifier.isStatic(f.getModifiers())
                    && Modifier.isFinal(f.getModifiers()));
                told++;
            }
        }
        int open = 0;
        for (Field f : AmberGrains.class.getDeclaredFields()) {
            open += Modifier.isPrivate(f.getModifiers()) ? 0 : 1;
        }
        due("five constants, and no other open field", told == 5 && open == 5);
        due("NO", document.contains("The constants: `NO = Long.MIN_VALUE`") && AmberGrains.NO == Long.MIN_VALUE);
    }

    // ---- the promises' calls, and the headings of the interface

    private static void eachPromiseHasItsCall(String document, List<String> face) {
        Matcher m = Pattern.compile("\n## Promise (\\d+): ([^\n]*)\n\n`([^`]*)`: ").matcher(document);
        int n = 0;
        while (m.find()) {
            n++;
            due("promise " + n + " comes as such", Integer.parseInt(m.group(1)) == n);
            due("promise " + n + " is of " + face.get(n - 1), m.group(3).equals(face.get(n - 1)));
        }
        due("34 promises", n == face.size());
    }

    private static void theHeadingsStandAhead(String document, String source) {
        Matcher m = Pattern.compile("Ahead of the calls (.*) the interface says: (---- [^\n]*)\\.\n").matcher(document);
        int headings = 0;
        int begin = 0;
        while (m.find()) {
            headings++;
            int heading = source.indexOf("    // " + m.group(2) + "\n");
            due(m.group(2) + " stands in the class", heading > begin);
            int next = source.indexOf("    // ---- ", heading + 1);
            for (String call : m.group(1).split(", ")) {
                int at = source.indexOf(" " + call.replace("`", "") + "(", heading);
                due(call + " stands behind " + m.group(2), at > heading && at < next);
            }
            begin = heading;
        }
        due("five headings", headings == 5);
    }

    // ---- "What it is"

    /** "An object is used for at most 512 calls": all of them are answered, the dearest, too, and the last as the first. */
    private static void anObjectIsUsedFor512Calls() {
        AmberGrains x = filled();
        int calls = FILLED_CALLS;
        long[] first = new long[ASKED];
        for (int k = 0; k < ASKED; k++) {
            first[k] = asked(x, k);
            calls++;
        }
        for (int k = 0; calls < MOST_CALLS; k = (k + 1) % ASKED) {
            due("call " + calls + " answers as before", asked(x, k) == first[k]);
            calls++;
        }
        due("the last call was the 512th", calls == MOST_CALLS);
    }

    private static final String TEXT = "sour 9 (((p<9|k=5&v>1)))&!!!!a<5;sweet 9 d=1;sour 3 w>4|a=2;room 99";
    private static final int ASKED = 12;
    // Six of teller, of tell and of see each, one of feed for each byte, and one of chart.
    private static final int FILLED_CALLS = 6 * 3 + TEXT.length() + 1;

    private static AmberGrains filled() {
        AmberGrains x = new AmberGrains();
        for (int kind = 1; kind <= 6; kind++) {
            x.teller(kind, kind, kind * 3);
            x.tell(kind - 1);
            x.see(kind - 1, 12, 1);
        }
        for (int i = 0; i < TEXT.length(); i++) {
            x.feed(TEXT.charAt(i));
        }
        due("the text is a sea", x.chart() == 0);
        return x;
    }

    private static long asked(AmberGrains x, int k) {
        switch (k) {
            case 0: return x.of(5, 7);
            case 1: return x.of(4, 8);
            case 2: return x.of(3, 14);
            case 3: return x.on(60, 10);
            case 4: return x.begin(20, 0);
            case 5: return x.weights(2);
            case 6: return x.can(1, 0);
            case 7: return x.odds(0, 20, 1);
            case 8: return x.mean(0);
            case 9: return x.ends(1);
            case 10: return x.told(6);
            default: return x.act(5, 2, 77);
        }
    }

    /** No other object, and none of its calls, is seen in what an object answers. */
    private static void twoObjectsShareNothing() {
        AmberGrains alone = filled();
        AmberGrains one = filled();
        AmberGrains other = new AmberGrains();
        for (int k = 0; k < ASKED; k++) {
            long want = asked(alone, k);
            other.teller(k % 7, 9, 20);
            other.tell(k % 6);
            other.sea(2 + k % 4, 7);
            other.tape(k % 6, 2, 5);
            other.pass(1);
            asked(other, k);
            due("the same by itself and beside another: " + k, asked(one, k) == want);
        }
        due("the other's day", one.told(0) == 0 && other.told(0) == ASKED);
        due("the other's tapes", one.read(0, 0) == AmberGrains.NO && other.read(0, 0) == 0);
    }
}
