import java.lang.reflect.InvocationTargetException;
import java.lang.reflect.Method;
import java.lang.reflect.Modifier;
import java.util.ArrayList;
import java.util.Arrays;
import java.util.Comparator;
import java.util.IdentityHashMap;
import java.util.List;
import java.util.Map;

/** What the tests of edges share: objects in many states, numbers round a bound, a look at all that an object holds. */
final class Edges {
    static final int NONE = -1, BAD = -2, STATE = -3, FULL = -4;
    static final int NEVER = -5, OUT = -10001;
    static final int NOTHING = -11, CAST = -12, PLACE = -13, SIZE = -14;
    static final long NO = Long.MIN_VALUE;
    static final int MAX = Integer.MAX_VALUE, MIN = Integer.MIN_VALUE;

    interface Made {
        AmberGrains made();
    }

    interface Call {
        long on(AmberGrains x);
    }

    static final Made NEW = AmberGrains::new;
    static final Made BUSY = Edges::busy;
    static final Made FILLED = Edges::filled;

    private static final Map<Made, List<String>> HELD = new IdentityHashMap<>();
    private static int wrong = 0;
    private static String test = "";

    private Edges() {
    }

    // ---- how tests are run

    /** Runs each static method without arguments that the class has; ends with 1 if an answer was not as due. */
    static void run(Class<?> tests) {
        Method[] all = tests.getDeclaredMethods();
        Arrays.sort(all, Comparator.comparing(Method::getName));
        int ran = 0;
        for (Method m : all) {
            if (isTest(m)) {
                runOne(m);
                ran++;
            }
        }
        if (ran == 0) {
            wrong++;
        }
        System.out.println(ran + " tests of edges, " + wrong + " answers not as due");
        if (wrong != 0) {
            System.exit(1);
        }
    }

    private static boolean isTest(Method m) {
        return Modifier.isStatic(m.getModifiers()) && m.getParameterCount() == 0 && m.getReturnType() == void.class
            && !m.isSynthetic();
    }

    private static void runOne(Method m) {
        test = m.getName();
        try {
            m.setAccessible(true);
            m.invoke(null);
        } catch (InvocationTargetException e) {
            wrong++;
            System.out.println(test + " threw " + e.getCause());
            e.getCause().printStackTrace(System.out);
        } catch (IllegalAccessException e) {
            wrong++;
            System.out.println(test + " could not be run: " + e);
        }
    }

    static void due(String call, long got, long want) {
        if (got != want) {
            wrong++;
            System.out.println(test + ": " + call + " answered " + got + ", due is " + want);
        }
    }

    /** A call that is answered so, and behind which all is as on an object of which it was not asked. */
    static void changesNothing(Made made, long want, String call, Call c) {
        AmberGrains x = made.made();
        due(call, c.on(x), want);
        List<String> is = held(x);
        List<String> was = HELD.computeIfAbsent(made, m -> held(m.made()));
        for (int i = 0; i < Math.max(is.size(), was.size()); i++) {
            String now = i < is.size() ? is.get(i) : "nothing";
            String before = i < was.size() ? was.get(i) : "nothing";
            if (!now.equals(before)) {
                wrong++;
                System.out.println(test + ": behind " + call + " " + now + ", and not " + before);
                return;
            }
        }
    }

    /** What is asked: the answer is the same on another object made so, and nothing is changed. */
    static void asks(Made made, String call, Call c) {
        changesNothing(made, c.on(made.made()), call, c);
    }

    // ---- numbers round a bound

    /** The first that is not allowed and the farthest, on both sides. */
    static int[] outside(int least, int most) {
        return new int[] {MIN, least - 1, most + 1, MAX};
    }

    /** What lies outside, and the last that is allowed, on both sides. */
    static int[] around(int least, int most) {
        return new int[] {MIN, least - 1, least, most, most + 1, MAX};
    }

    static boolean in(int n, int least, int most) {
        return n >= least && n <= most;
    }

    // ---- objects in many states

    static void feed(AmberGrains x, String text) {
        for (int i = 0; i < text.length(); i++) {
            x.feed(text.charAt(i));
        }
    }

    static int chart(AmberGrains x, String text) {
        feed(x, text);
        return x.chart();
    }

    /** Tellers of one kind each, with this v and this weight. */
    static AmberGrains tellers(int v, int weight, int... kinds) {
        AmberGrains x = new AmberGrains();
        for (int kind : kinds) {
            x.teller(kind, v, weight);
        }
        return x;
    }

    /** The same, and all of them told. */
    static AmberGrains told(int v, int weight, int... kinds) {
        AmberGrains x = tellers(v, weight, kinds);
        for (int p = 0; p < kinds.length; p++) {
            x.tell(p);
        }
        return x;
    }

    static void currents(AmberGrains x, int n) {
        for (int what = 2; what <= 5; what++) {
            x.sea(what, n);
        }
    }

    /** That many days go, sixty at once. */
    static AmberGrains pass(AmberGrains x, int days) {
        for (int left = days; left > 0; left -= 60) {
            x.pass(Math.min(60, left));
        }
        return x;
    }

    /** Tellers of KIND TOLD that come up one by one, with DAY 19, 39, 59 and 79, and then stay where they are. */
    static AmberGrains oneEachTwentyDays(int many) {
        AmberGrains x = new AmberGrains();
        for (int p = 0; p < many; p++) {
            x.teller(6, 0, 0);
            x.row(p, 3, 9);
            x.tell(p);
        }
        // By d=9 each lies at 9 or 0, as DAY modulo 4 is 3 or 1; the last one, without the 5 for others, at 4 or -5.
        chart(x, "sweet 5 d=9;sweet 50 !d=9;room 3");
        currents(x, 0);
        x.sea(0, 0);
        return x;
    }

    /** One of KIND TOLD that comes up with DAY 11: before, it is DAY modulo 4 or d alone that lies on it. */
    static AmberGrains upWithDayEleven() {
        AmberGrains x = tellers(0, 0, 6);
        x.row(0, 3, 9);
        x.tell(0);
        chart(x, "sour 9 d=1;room 17");
        x.sea(0, 0);
        return x;
    }

    /** Something of everything, and room for more of everything. */
    static AmberGrains busy() {
        AmberGrains x = new AmberGrains();
        x.teller(6, 3, 12);
        x.teller(4, 2, 9);
        x.teller(3, 7, 5);
        x.teller(1, 4, 20);
        x.teller(0, 9, 0);
        chart(x, "sour 3 k>3;room 27");
        x.tell(0);
        x.tell(1);
        x.row(0, 1, 6);
        x.see(0, 1, 1);
        x.plan(0, 0);
        x.book(2, 0);
        x.image();
        x.row(0, 3, 2);
        x.sea(0, 1169);
        x.sea(1, 7);
        x.sea(2, 2);
        x.sea(4, 3);
        x.pass(2);
        x.tell(2);
        x.put(3, 5, 2);
        x.put(4, 9, 4);
        x.see(1, 3, 1);
        x.plan(1, 3);
        x.book(3, 5);
        for (int sort = 0; sort < 5; sort++) {
            x.tape(sort, sort, 3);
            x.item(sort, 1, sort + 3);
        }
        x.act(0, 2, 5);
        feed(x, "ro");
        return x;
    }

    /** As much of everything as there may be, but for THE TEXT. */
    static AmberGrains filled() {
        AmberGrains x = new AmberGrains();
        for (int kind = 6; kind >= 1; kind--) {
            x.teller(kind, kind, 20 - kind);
        }
        for (int n = 20; n < 26; n++) {
            chart(x, "room " + n);
        }
        x.image();
        for (int p = 0; p < 3; p++) {
            x.tell(p);
        }
        for (int k = 0; k < 5; k++) {
            x.see(k, k, k / 2);
        }
        for (int k = 0; k < 10; k++) {
            x.plan(k % 4, k / 2);
        }
        for (int k = 0; k < 8; k++) {
            x.book(k % 6, k / 6);
        }
        x.act(0, 1, 7);
        feed(x, "room 4");
        return x;
    }

    // ---- all that an object holds

    /** Asked first, then brought out by calls that change it: the object is of no use behind this. */
    private static List<String> held(AmberGrains x) {
        List<String> all = new ArrayList<>();
        askAll(x, all);
        askTapes(x, all);
        for (int i = 0; i <= 20; i++) {
            all.add("trace(" + i + ") = " + x.trace(i));
        }
        for (int p = 0; p < x.count(0); p++) {
            for (int part = 0; part < 4 && x.of(p, 0) == 6; part++) {
                all.add("row(" + p + ", " + part + ", 0) = " + x.row(p, part, 0));
            }
        }
        for (int place : new int[] {0, 5}) {
            for (int p = 0; p < x.count(0); p++) {
                x.put(p, place, 3);
            }
            all.add("all at " + place + ": looked() = " + x.looked());
        }
        x.feed(';');
        all.add("chart() = " + x.chart());
        all.add("undo() = " + x.undo());
        askAll(x, all);
        return all;
    }

    private static void askAll(AmberGrains x, List<String> all) {
        for (int what = 0; what <= 6; what++) {
            all.add("count(" + what + ") = " + x.count(what));
            all.add("told(" + what + ") = " + x.told(what));
        }
        for (int what = 10; what <= 13; what++) {
            all.add("told(" + what + ") = " + x.told(what));
        }
        for (int p = 0; p < x.count(0); p++) {
            for (int what : new int[] {0, 1, 2, 3, 4, 5, 6, 7, 8, 12, 13, 14}) {
                all.add("of(" + p + ", " + what + ") = " + x.of(p, what));
            }
            all.add("weights(" + p + ") = " + x.weights(p));
            all.add("can(" + p + ", 0) = " + x.can(p, 0));
        }
        all.add("looked() = " + x.looked());
        all.add("ends(0) = " + x.ends(0));
        all.add("ends(1) = " + x.ends(1));
    }

    private static void askTapes(AmberGrains x, List<String> all) {
        for (int t = 0; t < 6; t++) {
            for (int i = 0; i < 4; i++) {
                all.add("read(" + t + ", " + i + ") = " + x.read(t, i));
            }
            all.add("judge(" + t + ", 0) = " + x.judge(t, 0));
            all.add("shift(0, 0, " + t + ", 0, 0) = " + x.shift(0, 0, t, 0, 0));
        }
    }
}
