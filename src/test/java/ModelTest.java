import java.util.ArrayList;
import java.util.List;
import java.util.Random;

/** Long runs of calls, each beside a model of the document that is written another way. */
public final class ModelTest {
    private static final long NO = Long.MIN_VALUE;
    private static final int OUT = -10001;
    private static final int MOST_CALLS = 512, RUNS = 800;
    // The longest that one step of a run can go on: a text fed and charted, and all that asks() asks of six.
    private static final int STEP_CALLS = 102, ASKS_CALLS = 136;
    private static int wrong = 0;
    private static int calls = 0;

    /** One that tells, as the document's tables have it. */
    private static final class One {
        int number, kind, v, weight, state, age, place;
        int[] row = new int[4];

        One copy() {
            One c = new One();
            c.number = number;
            c.kind = kind;
            c.v = v;
            c.weight = weight;
            c.state = state;
            c.age = age;
            c.place = place;
            c.row = row.clone();
            return c;
        }
    }

    /** All of THE IMAGE; what is asked is asked of copies. */
    private static final class All {
        List<One> ones = new ArrayList<>();
        int shore = 273, finder = 0, day = 0;
        int[] current = {1, 1, 1, 1};
        String sea = null;
        List<int[]> seen = new ArrayList<>(), plan = new ArrayList<>(), book = new ArrayList<>();

        All copy() {
            All c = new All();
            for (One o : ones) {
                c.ones.add(o.copy());
            }
            c.shore = shore;
            c.finder = finder;
            c.day = day;
            c.current = current.clone();
            c.sea = sea;
            c.seen.addAll(seen);
            c.plan.addAll(plan);
            c.book.addAll(book);
            return c;
        }

        int room() {
            int room = 30;
            for (String clause : sea == null ? new String[0] : sea.split(";")) {
                if (clause.startsWith("room ")) {
                    room = Integer.parseInt(clause.substring(5));
                }
            }
            return room;
        }

        int sum(One o) {
            int sum = o.weight;
            for (String clause : sea == null ? new String[0] : sea.split(";")) {
                String[] parts = clause.split(" ");
                if (parts.length == 3 && holds(parts[2], o)) {
                    sum += (parts[0].equals("sour") ? 1 : -1) * Integer.parseInt(parts[1]);
                }
            }
            return sum;
        }

        boolean holds(String e, One o) {
            for (String sign : new String[] {"|", "&"}) {
                int depth = 0;
                for (int i = 0; i < e.length(); i++) {
                    depth += e.charAt(i) == '(' ? 1 : e.charAt(i) == ')' ? -1 : 0;
                    if (depth == 0 && e.startsWith(sign, i)) {
                        boolean left = holds(e.substring(0, i), o);
                        boolean right = holds(e.substring(i + 1), o);
                        return sign.equals("|") ? left || right : left && right;
                    }
                }
            }
            if (e.charAt(0) == '!') {
                return !holds(e.substring(1), o);
            }
            if (e.charAt(0) == '(') {
                return holds(e.substring(1, e.length() - 1), o);
            }
            int n = Integer.parseInt(e.substring(2));
            int is = switch (e.charAt(0)) {
                case 'p' -> o.number;
                case 'k' -> o.kind;
                case 'v' -> o.v;
                case 'w' -> o.weight;
                case 'a' -> o.age % 10;
                default -> day % 10;
            };
            return e.charAt(1) == '<' ? is < n : e.charAt(1) == '=' ? is == n : is > n;
        }

        int load(One o) {
            int sum = sum(o);
            boolean twins = ones.stream().anyMatch(t -> t != o && t.state == 1 && (t.kind == 3 || t.kind == 6));
            return switch (o.kind) {
                case 1 -> sum + o.v;
                case 2 -> sum / 2;
                case 3 -> sum + (twins ? 5 : 0);
                case 4 -> o.age < o.v ? 0 : sum + o.v;
                case 5 -> sum / 2 + (o.age > 9 ? 9 : o.age);
                case 6 -> sum + (twins ? 5 : 0) + o.row[day % 4];
                default -> sum;
            };
        }

        int loads() {
            return ones.stream().filter(o -> o.state == 1).mapToInt(this::load).sum();
        }

        int found() {
            return (int) ones.stream().filter(o -> o.state == 4).count();
        }

        int within() {
            return ones.stream().filter(o -> o.state == 1).mapToInt(o -> 1 << o.number).sum();
        }

        void day() {
            if (loads() > room()) {
                One up = null;
                for (One o : ones) {
                    if (o.state == 1 && (up == null || load(o) > load(up))) {
                        up = o;
                    }
                }
                up.place = (day + 3 * up.number) % 12;
                up.state = 2;
            }
            for (One o : ones) {
                if (o.state == 2) {
                    o.place = (o.place + current[day % 4]) % 12;
                    if ((shore & 1 << o.place) != 0) {
                        o.state = 3;
                    }
                }
            }
            finder = (finder + 1) % 12;
            for (One o : ones) {
                if (o.state == 3 && o.place == finder) {
                    o.state = 4;
                }
            }
            for (One o : ones) {
                if (o.state == 1) {
                    o.age++;
                }
            }
            day++;
        }

        All behind(int days) {
            All c = copy();
            for (int d = 0; d < days; d++) {
                c.day();
            }
            return c;
        }

        int comes(int p, int k) {
            All then = copy();
            for (int d = 0; d <= 60; d++) {
                if (then.ones.get(p).state >= k) {
                    return d;
                }
                then.day();
            }
            return -5;
        }

        void tell(int p) {
            ones.get(p).state = 1;
            ones.get(p).age = 0;
        }

        boolean isAsSeen() {
            return seen.stream().allMatch(r -> behind(r[1]).ones.get(r[0]).state == r[2]);
        }
    }

    private All all = new All();
    private All image = null;
    private String text = "";
    private int seas = 0;
    private final List<Integer> ran = new ArrayList<>();

    private boolean no(int p) {
        return p < 0 || p >= all.ones.size();
    }

    private static boolean beyond(int n, int most) {
        return n < 0 || n > most;
    }

    int teller(int kind, int v, int weight) {
        if (beyond(kind, 6)) {
            return -1;
        }
        if (beyond(v, 9) || beyond(weight, 20)) {
            return -2;
        }
        if (all.ones.size() == 6) {
            return -4;
        }
        One o = new One();
        o.number = all.ones.size();
        o.kind = kind;
        o.v = v;
        o.weight = weight;
        all.ones.add(o);
        return o.number;
    }

    private static int atLeast(int days) {
        return days == -5 ? 1000 : days;
    }

    private int blow(int p) {
        int best = -5;
        int least = 1000;
        for (int c = 0; c <= 9; c++) {
            All other = all.copy();
            other.current = new int[] {c, c, c, c};
            int days = atLeast(other.comes(p, 3));
            if (days < least) {
                least = days;
                best = c;
            }
        }
        return best;
    }

    private int news(int p) {
        int best = -5;
        int least = atLeast(all.comes(p, 2));
        for (int q = 0; q < all.ones.size(); q++) {
            All other = all.copy();
            if (other.ones.get(q).state == 0) {
                other.tell(q);
                int days = atLeast(other.comes(p, 2));
                if (days < least) {
                    least = days;
                    best = q;
                }
            }
        }
        return best;
    }

    int of(int p, int what) {
        if (no(p)) {
            return OUT;
        }
        One o = all.ones.get(p);
        return switch (what) {
            case 0 -> o.kind;
            case 1 -> o.v;
            case 2 -> o.weight;
            case 3 -> o.state;
            case 4 -> o.age;
            case 5 -> o.place;
            case 6 -> all.load(o);
            case 7 -> blow(p);
            case 8 -> news(p);
            case 12, 13, 14 -> all.comes(p, what - 10);
            default -> OUT;
        };
    }

    int tell(int p) {
        if (no(p)) {
            return -1;
        }
        if (all.ones.get(p).state != 0) {
            return -3;
        }
        all.tell(p);
        return Integer.bitCount(all.within());
    }

    int weigh(int p, int n) {
        if (no(p) || beyond(n, 20)) {
            return no(p) ? -1 : -2;
        }
        int was = all.ones.get(p).weight;
        all.ones.get(p).weight = n;
        return was;
    }

    int put(int p, int place, int state) {
        if (no(p) || beyond(place, 11)) {
            return -1;
        }
        if (state < 2 || state > 4) {
            return -2;
        }
        One o = all.ones.get(p);
        int was = o.state;
        o.place = place;
        o.state = state;
        return was;
    }

    int sea(int what, int n) {
        if (beyond(what, 5)) {
            return -1;
        }
        int[] most = {4095, 11, 9, 9, 9, 9};
        if (beyond(n, most[what])) {
            return -2;
        }
        int[] is = {all.shore, all.finder, all.current[0], all.current[1], all.current[2], all.current[3]};
        int was = is[what];
        is[what] = n;
        all.shore = is[0];
        all.finder = is[1];
        all.current = new int[] {is[2], is[3], is[4], is[5]};
        return was;
    }

    int row(int p, int part, int n) {
        if (no(p) || beyond(part, 3)) {
            return -1;
        }
        if (beyond(n, 9)) {
            return -2;
        }
        if (all.ones.get(p).kind != 6) {
            return -3;
        }
        int was = all.ones.get(p).row[part];
        all.ones.get(p).row[part] = n;
        return was;
    }

    int feed(int sign) {
        if (beyond(sign, 127)) {
            return -2;
        }
        if (text.length() == 100) {
            return -4;
        }
        text += (char) sign;
        return text.length();
    }

    /** Texts here are made good but for their last sign, so that the FAULT is where told. */
    int chart(int fault) {
        if (seas == 6) {
            return -4;
        }
        String read = text;
        text = "";
        if (fault >= 0) {
            return -10 - fault;
        }
        all.sea = read;
        return seas++;
    }

    int told(int what) {
        return switch (what) {
            case 0 -> all.day;
            case 1 -> all.room();
            case 2 -> all.shore;
            case 3 -> all.finder;
            case 4 -> all.found();
            case 5 -> all.within();
            case 6 -> all.loads();
            case 10, 11, 12, 13 -> all.current[what - 10];
            default -> OUT;
        };
    }

    int pass(int n) {
        if (beyond(n, 60)) {
            return -2;
        }
        if (all.day + n > 9999) {
            return -3;
        }
        all = all.behind(n);
        return all.day;
    }

    int on(int n, int what) {
        boolean state = what >= 10 && what < 10 + all.ones.size();
        boolean place = what >= 20 && what < 20 + all.ones.size();
        if (what != 0 && !state && !place) {
            return -1;
        }
        if (beyond(n, 60)) {
            return -2;
        }
        All then = all.behind(n);
        return what == 0 ? then.found() : state ? then.ones.get(what - 10).state : then.ones.get(what - 20).place;
    }

    private All withFinder(int place, int n) {
        All other = all.copy();
        other.finder = place;
        return other.behind(n);
    }

    int begin(int n, int what) {
        if (what != 0 && what != 1) {
            return -1;
        }
        if (n < 1 || n > 20) {
            return -2;
        }
        int best = 0;
        for (int place = 1; place < 12; place++) {
            if (withFinder(place, n).found() > withFinder(best, n).found()) {
                best = place;
            }
        }
        return what == 0 ? best : withFinder(best, n).found();
    }

    int see(int p, int n, int state) {
        if (p == -1) {
            all.seen.clear();
            return 0;
        }
        if (no(p)) {
            return -1;
        }
        if (beyond(n, 12) || beyond(state, 4)) {
            return -2;
        }
        if (all.seen.size() == 5) {
            return -4;
        }
        all.seen.add(new int[] {p, n, state});
        return all.seen.size();
    }

    int weights(int p) {
        if (no(p)) {
            return -1;
        }
        int bits = 0;
        for (int w = 0; w <= 20; w++) {
            All other = all.copy();
            other.ones.get(p).weight = w;
            bits += other.isAsSeen() ? 1 << w : 0;
        }
        return bits;
    }

    int can(int p, int what) {
        if (no(p) || beyond(what, 1)) {
            return -1;
        }
        List<Integer> can = new ArrayList<>();
        for (int v = 0; v <= 9; v++) {
            All other = all.copy();
            other.ones.get(p).v = v;
            if (other.isAsSeen()) {
                can.add(v);
            }
        }
        return what == 0 ? can.size() : can.isEmpty() ? -5 : can.get(0);
    }

    private static long fraction(int above, int below, int part) {
        int by = java.math.BigInteger.valueOf(above).gcd(java.math.BigInteger.valueOf(below)).intValue();
        return (part == 0 ? above : below) / by;
    }

    long odds(int p, int n, int part) {
        if (no(p) || beyond(n, 20) || beyond(part, 1)) {
            return NO;
        }
        int found = 0;
        for (int place = 0; place < 12; place++) {
            found += withFinder(place, n).ones.get(p).state == 4 ? 1 : 0;
        }
        return fraction(found, 12, part);
    }

    long mean(int part) {
        if (beyond(part, 1) || all.within() == 0) {
            return NO;
        }
        return fraction(all.loads(), Integer.bitCount(all.within()), part);
    }

    int plan(int what, int n) {
        if (what == -1) {
            all.plan.clear();
            return 0;
        }
        if (beyond(what, 3) || (what == 1 || what == 2) && no(n) || what == 3 && beyond(n, 11)) {
            return -1;
        }
        if (all.plan.size() == 10) {
            return -4;
        }
        all.plan.add(new int[] {what, n});
        return all.plan.size();
    }

    int ends(int what) {
        if (beyond(what, 1)) {
            return -1;
        }
        All end = all.copy();
        for (int[] r : all.plan) {
            switch (r[0]) {
                case 0 -> end.day();
                case 1 -> {
                    if (end.ones.get(r[1]).state == 0) {
                        end.tell(r[1]);
                    }
                }
                case 2 -> {
                    end.ones.get(r[1]).state = 0;
                    end.ones.get(r[1]).age = 0;
                }
                default -> end.finder = r[1];
            }
        }
        return what == 0 ? end.found() : end.within();
    }

    int book(int p, int place) {
        if (p == -1) {
            all.book.clear();
            return 0;
        }
        if (no(p) || beyond(place, 11)) {
            return -1;
        }
        if (all.book.size() == 8) {
            return -4;
        }
        all.book.add(new int[] {p, place});
        return all.book.size();
    }

    int looked() {
        for (int i = 0; i < all.book.size(); i++) {
            if (all.ones.get(all.book.get(i)[0]).place != all.book.get(i)[1]) {
                return i;
            }
        }
        return -5;
    }

    int image() {
        image = all.copy();
        return all.ones.size();
    }

    int undo() {
        if (image == null) {
            return -3;
        }
        all = image.copy();
        return all.ones.size();
    }

    /** The kinds as Java classes, whose virtual calls are the document's. */
    private class Teller {
        int i, v;

        int sinks(int x) {
            ran.add(10);
            return x + i;
        }

        int sighs(int x) {
            ran.add(11);
            return sinks(x) - v;
        }

        int tells(int x) {
            ran.add(12);
            return sighs(x) * 2;
        }
    }

    private class Bosun extends Teller {
        @Override int sighs(int x) {
            ran.add(20);
            return super.sighs(x) ^ 6;
        }
    }

    private class Bride extends Teller {
        @Override int sinks(int x) {
            ran.add(30);
            return super.sinks(x * 3);
        }
    }

    private class Twin extends Teller {
        @Override int tells(int x) {
            ran.add(40);
            return super.tells(x) + sighs(1);
        }
    }

    private final class Captain extends Bosun {
        @Override int sinks(int x) {
            ran.add(50);
            return -super.sinks(x);
        }

        @Override int sighs(int x) {
            ran.add(51);
            return super.sighs(x + 1);
        }
    }

    private final class Child extends Bride {
        @Override int tells(int x) {
            ran.add(60);
            return super.tells(x - i);
        }
    }

    private final class Told extends Twin {
        @Override int sighs(int x) {
            ran.add(70);
            return super.sighs(x) + super.sinks(2);
        }

        @Override int sinks(int x) {
            ran.add(71);
            return super.sinks(x) ^ v;
        }
    }

    private Teller body(int p) {
        Teller[] kinds = {new Teller(), new Bosun(), new Bride(), new Twin(), new Captain(), new Child(), new Told()};
        Teller one = kinds[all.ones.get(p).kind];
        one.i = p;
        one.v = all.ones.get(p).v;
        return one;
    }

    int act(int p, int act, int x) {
        ran.clear();
        if (no(p) || beyond(act, 2)) {
            return 0;
        }
        Teller one = body(p);
        return act == 0 ? one.sinks(x) : act == 1 ? one.sighs(x) : one.tells(x);
    }

    int trace(int i) {
        return beyond(i, Math.min(20, ran.size()) - 1) ? -1 : ran.get(i);
    }

    int taken(int p, int k) {
        if (beyond(k, 6)) {
            return -2;
        }
        if (no(p)) {
            return -11;
        }
        Class<?>[] kinds = {Teller.class, Bosun.class, Bride.class, Twin.class, Captain.class, Child.class, Told.class};
        return kinds[k].isInstance(body(p)) ? all.ones.get(p).kind : -12;
    }

    int count(int what) {
        int[] counts = {all.ones.size(), seas, all.seen.size(), all.plan.size(), all.book.size(), text.length(),
            ran.size()};
        return beyond(what, 6) ? -2 : counts[what];
    }

    private final Object[] tapes = new Object[6];

    private static int length(Object tape) {
        return java.lang.reflect.Array.getLength(tape);
    }

    int tape(int t, int sort, int n) {
        if (beyond(t, 5)) {
            return -1;
        }
        if (sort != -1 && (beyond(sort, 4) || n > 60)) {
            return -2;
        }
        if (sort != -1 && n < 0) {
            return -14;
        }
        Class<?>[] sorts = {byte.class, short.class, int.class, long.class, boolean.class};
        tapes[t] = sort == -1 ? null : java.lang.reflect.Array.newInstance(sorts[sort], n);
        return 1;
    }

    int item(int t, int i, long v) {
        if (beyond(t, 5)) {
            return -1;
        }
        Object tape = tapes[t];
        if (tape == null) {
            return -11;
        }
        if (beyond(i, length(tape) - 1)) {
            return -13;
        }
        if (tape instanceof byte[] b) {
            b[i] = (byte) v;
        } else if (tape instanceof short[] s) {
            s[i] = (short) v;
        } else if (tape instanceof int[] n) {
            n[i] = (int) v;
        } else if (tape instanceof long[] l) {
            l[i] = v;
        } else {
            ((boolean[]) tape)[i] = v != 0;
        }
        return 1;
    }

    long read(int t, int i) {
        if (beyond(t, 5) || tapes[t] == null || beyond(i, length(tapes[t]) - 1)) {
            return NO;
        }
        Object v = java.lang.reflect.Array.get(tapes[t], i);
        return v instanceof Boolean b ? (b ? 1 : 0) : ((Number) v).longValue();
    }

    int shift(int t, int i, int other, int j, int n) {
        if (beyond(t, 5) || beyond(other, 5)) {
            return -1;
        }
        if (tapes[t] == null || tapes[other] == null) {
            return -11;
        }
        if (tapes[t].getClass() != tapes[other].getClass()) {
            return -12;
        }
        boolean within = (long) i + n <= length(tapes[t]) && (long) j + n <= length(tapes[other]);
        if (i < 0 || j < 0 || n < 0 || !within) {
            return -13;
        }
        List<Object> items = new ArrayList<>();
        for (int k = 0; k < n; k++) {
            items.add(java.lang.reflect.Array.get(tapes[t], i + k));
        }
        for (int k = 0; k < n; k++) {
            java.lang.reflect.Array.set(tapes[other], j + k, items.get(k));
        }
        return n;
    }

    int judge(int t, int i) {
        if (beyond(t, 5)) {
            return -1;
        }
        if (tapes[t] != null && !(tapes[t] instanceof int[])) {
            return -12;
        }
        int[] ages = tapes[t] == null ? new int[0] : (int[]) tapes[t];
        for (One o : all.ones) {
            if (i < 0 || (long) i + o.number >= ages.length) {
                return 100 + o.number;
            }
            if (ages[i + o.number] != o.age) {
                return o.number;
            }
        }
        return -5;
    }

    // ---- the runs

    private static final int[] FAR = {Integer.MIN_VALUE, Integer.MAX_VALUE, -2, -1, 99};

    /** Mostly from least to most, sometimes a little or far beyond. */
    private static int some(Random random, int least, int most) {
        int sort = random.nextInt(24);
        if (sort == 0) {
            return FAR[random.nextInt(FAR.length)];
        }
        int wide = most - least + 1 + (sort == 1 ? 2 : 0);
        return least - (sort == 1 ? 1 : 0) + random.nextInt(wide);
    }

    private static String seaOf(Random random) {
        StringBuilder b = new StringBuilder();
        int clauses = 1 + random.nextInt(4);
        for (int i = 0; i < clauses; i++) {
            String clause = random.nextInt(3) == 0 ? "room " + random.nextInt(60)
                : (random.nextInt(3) > 0 ? "sour " : "sweet ") + random.nextInt(25) + " " + tests(random, 0);
            if (b.length() + clause.length() < 98) {
                b.append(b.length() == 0 ? "" : ";").append(clause);
            }
        }
        return b.length() == 0 ? "room 25" : b.toString();
    }

    private static String tests(Random random, int depth) {
        StringBuilder b = new StringBuilder();
        int many = 1 + random.nextInt(3) * random.nextInt(2);
        for (int i = 0; i < many; i++) {
            b.append(i == 0 ? "" : random.nextBoolean() ? "&" : "|");
            int sort = depth > 3 ? 9 : random.nextInt(8);
            if (sort == 0) {
                b.append('(').append(tests(random, depth + 1)).append(')');
            } else {
                b.append(sort == 1 ? "!" : "").append("pkvwad".charAt(random.nextInt(6)));
                b.append("<=>".charAt(random.nextInt(3))).append(random.nextInt(12));
            }
        }
        return b.toString();
    }

    /** Each answer is one call; an object is used for 512 of them and no more. */
    private static boolean due(int run, String call, long got, long want) {
        calls++;
        if (got != want) {
            wrong++;
            System.out.println("run " + run + ": " + call + " answered " + got + ", due is " + want);
        }
        return got == want;
    }

    private void charts(Random random, int run, AmberGrains x) {
        String made = seaOf(random);
        boolean cut = random.nextInt(6) == 0;
        String fed = cut ? made + "x" : made;
        boolean empty = text.isEmpty();
        for (int i = 0; i < fed.length() && empty; i++) {
            due(run, "feed", x.feed(fed.charAt(i)), feed(fed.charAt(i)));
        }
        int fault = !empty ? 0 : cut ? made.length() : -1;
        boolean stays = seas == 6;
        due(run, "chart " + fed, x.chart(), chart(fault));
        due(run, "text of " + stays, x.count(5), text.length());
    }

    private void call(Random random, int run, AmberGrains x) {
        int p = some(random, 0, Math.max(0, all.ones.size() - 1));
        int q = some(random, 0, 5);
        int s = some(random, 0, 11);
        int d = some(random, 0, 12);
        switch (random.nextInt(40)) {
            case 0, 1 -> {
                int k = some(random, 0, 6);
                int v = some(random, 0, 9);
                int w = some(random, 0, 20);
                due(run, "teller " + k + " " + v + " " + w, x.teller(k, v, w), teller(k, v, w));
            }
            case 2, 3, 4, 5 -> due(run, "tell " + p, x.tell(p), tell(p));
            case 6 -> {
                int w = some(random, 0, 20);
                due(run, "weigh " + p + " " + w, x.weigh(p, w), weigh(p, w));
            }
            case 7 -> {
                int state = some(random, 2, 4);
                due(run, "put " + p + " " + s + " " + state, x.put(p, s, state), put(p, s, state));
            }
            case 8 -> {
                int n = q == 0 ? some(random, 0, 4095) : some(random, 0, q == 1 ? 11 : 9);
                due(run, "sea " + q + " " + n, x.sea(q, n), sea(q, n));
            }
            case 9, 10 -> {
                int part = some(random, 0, 3);
                int n = some(random, 0, 9);
                due(run, "row " + p + " " + part + " " + n, x.row(p, part, n), row(p, part, n));
            }
            case 11, 12 -> charts(random, run, x);
            case 13, 14, 15 -> {
                int n = random.nextInt(3) == 0 ? some(random, 0, 60) : some(random, 0, 4);
                due(run, "pass " + n, x.pass(n), pass(n));
            }
            case 16 -> {
                int n = some(random, 0, 60);
                int what = some(random, 0, 25);
                due(run, "on " + n + " " + what, x.on(n, what), on(n, what));
            }
            case 17 -> {
                int n = some(random, 1, 20);
                int what = some(random, 0, 1);
                due(run, "begin " + n + " " + what, x.begin(n, what), begin(n, what));
            }
            case 18, 19, 20 -> {
                // Half of what is seen is as it will be, so that some of it can be so.
                int state = no(p) || beyond(d, 12) || random.nextBoolean() ? some(random, 0, 4)
                    : all.behind(d).ones.get(p).state;
                due(run, "see " + p + " " + d + " " + state, x.see(p, d, state), see(p, d, state));
            }
            case 21 -> due(run, "weights " + p, x.weights(p), weights(p));
            case 22 -> {
                int what = some(random, 0, 1);
                due(run, "can " + p + " " + what, x.can(p, what), can(p, what));
            }
            case 23 -> {
                int n = some(random, 0, 20);
                int part = some(random, 0, 1);
                due(run, "odds " + p + " " + n + " " + part, x.odds(p, n, part), odds(p, n, part));
            }
            case 24, 25 -> {
                int what = random.nextBoolean() ? 0 : some(random, 0, 3);
                int n = random.nextBoolean() ? p : s;
                due(run, "plan " + what + " " + n, x.plan(what, n), plan(what, n));
            }
            case 26 -> due(run, "book " + p + " " + s, x.book(p, s), book(p, s));
            case 27 -> {
                int place = no(p) ? 0 : all.ones.get(p).place;
                due(run, "book " + p + " " + place, x.book(p, place), book(p, place));
            }
            case 28, 29 -> judges(random, run, x, q);
            case 30 -> due(run, "image", x.image(), image());
            case 31 -> due(run, "undo", x.undo(), undo());
            case 32 -> {
                int act = some(random, 0, 2);
                int n = random.nextInt();
                due(run, "act " + p + " " + act + " " + n, x.act(p, act, n), act(p, act, n));
                for (int i = -1; i <= 20; i++) {
                    due(run, "trace " + i, x.trace(i), trace(i));
                }
            }
            case 33 -> {
                int k = some(random, 0, 6);
                due(run, "taken " + p + " " + k, x.taken(p, k), taken(p, k));
            }
            case 34, 35 -> {
                int sort = some(random, 0, 4);
                int n = some(random, 0, 12);
                due(run, "tape " + q + " " + sort + " " + n, x.tape(q, sort, n), tape(q, sort, n));
            }
            case 36, 37 -> {
                long v = random.nextLong() >> random.nextInt(64);
                due(run, "item " + q + " " + s + " " + v, x.item(q, s, v), item(q, s, v));
            }
            case 38 -> shifts(random, run, x, q);
            default -> {
                int what = some(random, 0, 14);
                due(run, "told " + what, x.told(what), told(what));
                due(run, "read " + q + " " + s, x.read(q, s), read(q, s));
            }
        }
    }

    private void judges(Random random, int run, AmberGrains x, int q) {
        int at = some(random, 0, 3);
        for (One o : all.ones) {
            int age = random.nextInt(12) == 0 ? 99 : o.age;
            due(run, "item", x.item(q, at + o.number, age), item(q, at + o.number, age));
        }
        due(run, "judge " + q + " " + at, x.judge(q, at), judge(q, at));
    }

    private void shifts(Random random, int run, AmberGrains x, int q) {
        int other = random.nextBoolean() ? q : some(random, 0, 5);
        int i = some(random, 0, 5);
        int j = some(random, 0, 5);
        int n = some(random, 0, 6);
        due(run, "shift " + q + " " + i + " " + other + " " + j + " " + n, x.shift(q, i, other, j, n),
            shift(q, i, other, j, n));
        for (int at = 0; at < 12; at++) {
            due(run, "read " + other + " " + at, x.read(other, at), read(other, at));
        }
    }

    /** All that can be asked without a number of one's own. */
    private void asks(int run, AmberGrains x) {
        for (int what = -1; what <= 15; what++) {
            due(run, "told " + what, x.told(what), told(what));
            for (int p = 0; p < all.ones.size(); p++) {
                due(run, "of " + p + " " + what, x.of(p, what), of(p, what));
            }
        }
        for (int what = -1; what <= 7; what++) {
            due(run, "count " + what, x.count(what), count(what));
        }
        due(run, "mean 0", x.mean(0), mean(0));
        due(run, "mean 1", x.mean(1), mean(1));
        due(run, "mean 2", x.mean(2), mean(2));
        due(run, "ends 0", x.ends(0), ends(0));
        due(run, "ends 1", x.ends(1), ends(1));
        due(run, "ends 2", x.ends(2), ends(2));
        due(run, "looked", x.looked(), looked());
    }

    private static void run(int number) {
        Random random = new Random(number);
        AmberGrains x = new AmberGrains();
        ModelTest model = new ModelTest();
        calls = 0;
        int tellers = random.nextInt(7);
        for (int i = 0; i < tellers; i++) {
            int kind = random.nextInt(7);
            int v = random.nextInt(10);
            int weight = random.nextInt(21);
            due(number, "teller", x.teller(kind, v, weight), model.teller(kind, v, weight));
        }
        if (number % 40 == 0) {
            for (int i = 0; i < 167; i++) {
                due(number, "pass", x.pass(60 - i / 166 * 30), model.pass(60 - i / 166 * 30));
            }
        }
        for (int i = 0; calls <= MOST_CALLS - STEP_CALLS && wrong < 20; i++) {
            model.call(random, number, x);
            if (i % 10 == 9 && calls <= MOST_CALLS - ASKS_CALLS) {
                model.asks(number, x);
            }
        }
        while (calls < MOST_CALLS && wrong < 20) {
            int what = calls % 15;
            int n = calls % 61;
            due(number, "on " + n + " " + (what + 10), x.on(n, what + 10), model.on(n, what + 10));
        }
    }

    public static void main(String[] args) {
        for (int number = 1; number <= RUNS && wrong < 20; number++) {
            run(number);
        }
        System.out.println(wrong == 0 ? "all runs go as the model's" : wrong + " answers are not the model's");
        if (wrong != 0) {
            System.exit(1);
        }
    }
}
