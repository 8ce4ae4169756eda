import java.util.ArrayList;
import java.util.LinkedHashSet;
import java.util.List;
import java.util.Random;
import java.util.Set;

/** FAULTS of many texts, by the document's grammar written out as rules and followed sign by sign. */
public final class SeaTextTest {
    private static final String SIGNS = "sourwetm pkvad0123456789<=>!()&|;";
    private static int wrong = 0;

    public static void main(String[] args) {
        Random random = new Random(1);
        int good = 0;
        for (int i = 0; i < 6000; i++) {
            String text = made(random);
            if (i % 4 != 0) {
                text = spoiled(random, text);
            }
            int want = fault(text);
            good += want < 0 ? 1 : 0;
            compare(text, want);
        }
        everySignBehind("sour 1 ((((p=1");
        everySignBehind("sweet 22 !(!(d<9)|p=1");
        everySignBehind("room 1;sour 1 p=22|!v<1&(w>3)");
        everySignBehind("s");
        everySignBehind("");
        if (good < 500) {
            wrong++;
            System.out.println("only " + good + " texts were SEAS");
        }
        System.out.println(wrong == 0 ? "each text is read as told" : wrong + " texts are not");
        if (wrong != 0) {
            System.exit(1);
        }
    }

    private static void compare(String text, int want) {
        AmberGrains x = new AmberGrains();
        for (int i = 0; i < text.length(); i++) {
            x.feed(text.charAt(i));
        }
        int got = x.chart();
        int due = want < 0 ? 0 : -10 - want;
        if (got != due) {
            wrong++;
            System.out.println("\"" + text + "\" answered " + got + ", due is " + due);
        }
    }

    /** Each text that goes on from this one or a beginning of it by any one sign. */
    private static void everySignBehind(String text) {
        for (int cut = 0; cut <= text.length(); cut++) {
            String begin = text.substring(0, cut);
            compare(begin, fault(begin));
            for (int sign = 0; sign <= 127; sign++) {
                compare(begin + (char) sign, fault(begin + (char) sign));
            }
        }
    }

    private static String made(Random random) {
        StringBuilder b = new StringBuilder();
        int clauses = 1 + random.nextInt(12);
        for (int i = 0; i < clauses; i++) {
            b.append(i == 0 ? "" : ";").append(clause(random));
        }
        return b.substring(0, Math.min(b.length(), 100));
    }

    private static String clause(Random random) {
        if (random.nextInt(2) == 0) {
            return "room " + number(random);
        }
        return (random.nextBoolean() ? "sour " : "sweet ") + number(random) + " " + either(random, 0);
    }

    private static String number(Random random) {
        return random.nextBoolean() ? "" + random.nextInt(10) : "" + random.nextInt(10) + random.nextInt(10);
    }

    private static String either(Random random, int depth) {
        StringBuilder b = new StringBuilder(single(random, depth));
        while (random.nextInt(3) == 0) {
            b.append(random.nextBoolean() ? '&' : '|').append(single(random, depth));
        }
        return b.toString();
    }

    private static String single(Random random, int depth) {
        int sort = depth > 5 ? 9 : random.nextInt(6);
        if (sort == 0) {
            return "!" + single(random, depth + 1);
        }
        if (sort <= 2) {
            return "(" + either(random, depth + 1) + ")";
        }
        return "pkvwad".charAt(random.nextInt(6)) + "" + "<=>".charAt(random.nextInt(3)) + number(random);
    }

    private static String spoiled(Random random, String text) {
        int at = random.nextInt(text.length() + 1);
        String sign = "" + SIGNS.charAt(random.nextInt(SIGNS.length()));
        int sort = random.nextInt(4);
        if (sort == 0) {
            return text.substring(0, at);
        }
        if (sort == 1 && at < text.length()) {
            return text.substring(0, at) + text.substring(at + 1);
        }
        String rest = text.substring(Math.min(text.length(), at + (sort == 2 ? 1 : 0)));
        String all = text.substring(0, at) + sign + rest;
        return all.substring(0, Math.min(all.length(), 100));
    }

    /** The FAULT, or -1 if the text is a SEA: every way to go on is kept, until there is none. */
    private static int fault(String text) {
        Set<List<String>> ways = new LinkedHashSet<>();
        ways.add(List.of("clauses1"));
        for (int at = 0; at < text.length(); at++) {
            Set<List<String>> next = new LinkedHashSet<>();
            for (List<String> way : ways) {
                follow(way, text.charAt(at), next);
            }
            if (next.isEmpty()) {
                return at;
            }
            ways = next;
        }
        return ways.contains(List.<String>of()) ? -1 : text.length();
    }

    private static void follow(List<String> way, char sign, Set<List<String>> next) {
        if (way.isEmpty()) {
            return;
        }
        String first = way.get(0);
        List<String> rest = way.subList(1, way.size());
        if (first.startsWith("'")) {
            String signs = first.substring(1);
            if (signs.charAt(0) == sign) {
                List<String> left = new ArrayList<>();
                if (signs.length() > 1) {
                    left.add("'" + signs.substring(1));
                }
                left.addAll(rest);
                next.add(left);
            }
            return;
        }
        for (String[] rule : rules(first)) {
            List<String> one = new ArrayList<>(List.of(rule));
            one.addAll(rest);
            follow(one, sign, next);
        }
    }

    private static String[][] rules(String name) {
        String word = name.replaceAll("[0-9]", "");
        int n = word.length() == name.length() ? 0 : Integer.parseInt(name.substring(word.length()));
        switch (word) {
            case "clauses":
                return n == 10 ? new String[][] {{"clause"}}
                    : new String[][] {{"clause"}, {"clause", "';", "clauses" + (n + 1)}};
            case "clause":
                return new String[][] {{"'sour ", "number", "' ", "E0"}, {"'sweet ", "number", "' ", "E0"},
                    {"'room ", "number"}};
            case "number": return new String[][] {{"digit"}, {"digit", "digit"}};
            case "digit": return signs("0123456789");
            case "letter": return signs("pkvwad");
            case "than": return signs("<=>");
            case "E": return new String[][] {{"T" + n}, {"T" + n, "'|", "E" + n}};
            case "T": return new String[][] {{"F" + n}, {"F" + n, "'&", "T" + n}};
            case "F":
                return n == 4 ? new String[][] {{"test"}}
                    : new String[][] {{"'!", "F" + (n + 1)}, {"'(", "E" + (n + 1), "')"}, {"test"}};
            case "test": return new String[][] {{"letter", "than", "number"}};
            default: throw new IllegalStateException(name);
        }
    }

    private static String[][] signs(String all) {
        String[][] rules = new String[all.length()][];
        for (int i = 0; i < rules.length; i++) {
            rules[i] = new String[] {"'" + all.charAt(i)};
        }
        return rules;
    }
}
