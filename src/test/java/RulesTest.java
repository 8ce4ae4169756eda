import java.lang.management.ManagementFactory;
import java.lang.reflect.Array;
import java.lang.reflect.Field;
import java.util.IdentityHashMap;
import java.util.Map;

/** What of LANGUAGE.md calls show: that none throws, and how little an object and its calls make. */
public final class RulesTest {
    private static int wrong = 0;

    public static void main(String[] args) {
        nothingIsThrown();
        whatAnObjectHolds();
        callsMakeNothing();
        System.out.println(wrong == 0 ? "the rules are kept" : wrong + " times a rule is not kept");
        if (wrong != 0) {
            System.exit(1);
        }
    }

    private static void due(int rule, String what, boolean holds) {
        if (!holds) {
            wrong++;
            System.out.println("rule " + rule + ", not so: " + what);
        }
    }

    // ---- rule 7: no call throws

    private static final int[] FAR = {Integer.MIN_VALUE, Integer.MIN_VALUE + 1, -14, -2, -1, 0, 1, 2, 3, 4, 5, 6, 7, 9,
        10, 11, 12, 13, 20, 21, 25, 26, 59, 60, 61, 99, 100, 127, 128, 4095, 4096, 9999, Integer.MAX_VALUE - 1,
        Integer.MAX_VALUE};

    private static AmberGrains filled() {
        AmberGrains x = new AmberGrains();
        int[] kinds = {6, 4, 5, 3, 1, 2};
        for (int kind : kinds) {
            x.teller(kind, 9, 20);
        }
        String text = "sour 9 ((((p<9|k=5&v>1))))&!!!!a<5;sweet 9 d=1;room 40";
        for (int i = 0; i < text.length(); i++) {
            x.feed(text.charAt(i));
        }
        x.chart();
        for (int p = 0; p < 6; p++) {
            x.tell(p);
            x.see(p, 12, 1);
            x.book(p, 0);
            x.plan(0, 0);
            x.plan(2, p);
            x.tape(p, p % 5, 60);
        }
        x.image();
        return x;
    }

    /** Each call by each far number at each place, on new objects and on full ones. */
    private static void nothingIsThrown() {
        for (int a : FAR) {
            for (int b : FAR) {
                AmberGrains x = (a ^ b) % 2 == 0 ? filled() : new AmberGrains();
                two(x, a, b);
                three(x, a, b, FAR[Math.floorMod(a * 31 + b, FAR.length)]);
                three(x, b, FAR[Math.floorMod(a + b, FAR.length)], a);
                x.shift(a, 0, b, 0, 60);
                x.shift(0, a, 0, b, 1);
                x.shift(0, a, 0, 0, b);
                x.shift(0, 0, 0, a, b);
                x.undo();
                one(x, a);
            }
        }
    }

    private static void one(AmberGrains x, int a) {
        x.tell(a);
        x.feed(a);
        x.told(a);
        x.pass(a);
        x.weights(a);
        x.mean(a);
        x.ends(a);
        x.trace(a);
        x.count(a);
        x.looked();
        x.image();
        x.undo();
    }

    private static void two(AmberGrains x, int a, int b) {
        x.of(a, b);
        x.weigh(a, b);
        x.sea(a, b);
        x.on(a, b);
        x.begin(a, b);
        x.can(a, b);
        x.plan(a, b);
        x.book(a, b);
        x.judge(a, b);
        x.taken(a, b);
        x.read(a, b);
    }

    private static void three(AmberGrains x, int a, int b, int c) {
        x.teller(a, b, c);
        x.put(a, b, c);
        x.row(a, b, c);
        x.see(a, b, c);
        x.odds(a, b, c);
        x.act(a, b, c);
        x.tape(a, b, c);
        x.item(a, b, c);
    }

    // ---- rule 12: the room of a run

    /** All runs of calls share one room, so an object is small: a thousand of them would fit well. */
    private static void whatAnObjectHolds() {
        Map<Object, Boolean> seen = new IdentityHashMap<>();
        int elements = count(new AmberGrains(), seen);
        due(12, "an object holds few objects and arrays, not " + seen.size(), seen.size() <= 100);
        due(12, "an object holds few fields and elements, not " + elements, elements <= 2000);
    }

    private static int count(Object o, Map<Object, Boolean> seen) {
        if (o == null || seen.put(o, true) != null) {
            return 0;
        }
        int elements = 0;
        if (o instanceof Object[] all) {
            for (Object one : all) {
                elements += 1 + count(one, seen);
            }
            return elements;
        }
        if (o.getClass().isArray()) {
            return Array.getLength(o);
        }
        for (Field f : o.getClass().getDeclaredFields()) {
            if (!java.lang.reflect.Modifier.isStatic(f.getModifiers())) {
                elements += 1 + (f.getType().isPrimitive() ? 0 : count(held(f, o), seen));
            }
        }
        return elements;
    }

    private static Object held(Field f, Object o) {
        try {
            f.setAccessible(true);
            return f.get(o);
        } catch (IllegalAccessException e) {
            due(12, "what it holds can be seen: " + e, false);
            return null;
        }
    }

    /** But for its SEAS, an object makes nothing after it has been made. */
    private static void callsMakeNothing() {
        var threads = (com.sun.management.ThreadMXBean) ManagementFactory.getThreadMXBean();
        for (int round = 0; round < 3; round++) {
            long made = 0;
            for (int a : FAR) {
                AmberGrains x = filled();
                long begin = threads.getCurrentThreadAllocatedBytes();
                one(x, a);
                two(x, a, 0);
                two(x, 0, a);
                three(x, 0, 0, a);
                x.shift(0, 0, 0, a, 1);
                x.chart();
                made += threads.getCurrentThreadAllocatedBytes() - begin;
            }
            // In the first rounds the machine itself makes things, as it loads classes.
            due(12, "nothing is made by calls, not " + made + " bytes", round < 2 || made < 200);
        }
    }
}
