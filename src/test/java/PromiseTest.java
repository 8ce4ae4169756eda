/** Each promise of the document by itself: ordinary calls, the edges it names, wrong calls. */
public final class PromiseTest {
    private static final long NO = Long.MIN_VALUE;
    private static final int OUT = -10001;
    private static final int MAX = Integer.MAX_VALUE;
    private static final int MIN = Integer.MIN_VALUE;
    private static int wrong = 0;
    private static int promise = 0;

    public static void main(String[] args) {
        constants();
        newObject();
        teller();
        ofOwnNumbers();
        ofLoads();
        ofLoadsBySea();
        ofComes();
        ofSixtyDays();
        ofBlow();
        ofNews();
        tell();
        weigh();
        put();
        sea();
        row();
        feed();
        chart();
        chartReads();
        told();
        pass();
        passToTheLastDay();
        on();
        begin();
        see();
        weights();
        can();
        odds();
        mean();
        plan();
        ends();
        book();
        looked();
        judge();
        image();
        undo();
        act();
        trace();
        taken();
        count();
        tape();
        item();
        read();
        shift();
        beyondTheLastDay();
        System.out.println(wrong == 0 ? "each promise is kept" : wrong + " answers are not as due");
        if (wrong != 0) {
            System.exit(1);
        }
    }

    private static void due(String call, long got, long want) {
        if (got != want) {
            wrong++;
            System.out.println("promise " + promise + ": " + call + " answered " + got + ", due is " + want);
        }
    }

    private static int charted(AmberGrains x, String text) {
        for (int i = 0; i < text.length(); i++) {
            due("feed", x.feed(text.charAt(i)), i + 1);
        }
        return x.chart();
    }

    private static AmberGrains withKinds(int v, int weight, int... kinds) {
        AmberGrains x = new AmberGrains();
        for (int i = 0; i < kinds.length; i++) {
            due("teller", x.teller(kinds[i], v, weight), i);
        }
        return x;
    }

    /** Two that are told and weigh 35 together: the first drifts from 0 and is ashore at 4 with day 4. */
    private static AmberGrains twoTold() {
        AmberGrains x = new AmberGrains();
        x.teller(0, 0, 20);
        x.teller(0, 0, 15);
        x.tell(0);
        x.tell(1);
        return x;
    }

    private static void constants() {
        promise = 0;
        due("NONE", AmberGrains.NONE, -1);
        due("BAD", AmberGrains.BAD, -2);
        due("STATE", AmberGrains.STATE, -3);
        due("FULL", AmberGrains.FULL, -4);
        due("NO", AmberGrains.NO, Long.MIN_VALUE);
    }

    private static void newObject() {
        promise = 1;
        AmberGrains x = new AmberGrains();
        for (int what = 0; what <= 6; what++) {
            due("count " + what, x.count(what), 0);
        }
        due("ROOM without a SEA", x.told(1), 30);
        due("SHORE", x.told(2), 273);
        due("FINDER", x.told(3), 0);
        due("DAY", x.told(0), 0);
        for (int k = 0; k < 4; k++) {
            due("CURRENT", x.told(10 + k), 1);
        }
        due("no teller", x.of(0, 0), OUT);
        due("no image", x.undo(), -3);
        for (int t = 0; t < 6; t++) {
            due("TAPE holds nothing", x.item(t, 0, 1), -11);
        }
        x.teller(0, 1, 1);
        due("objects share nothing", new AmberGrains().count(0), 0);
    }

    private static void teller() {
        promise = 2;
        AmberGrains x = new AmberGrains();
        due("kind below", x.teller(-1, 0, 0), -1);
        due("kind above", x.teller(7, 0, 0), -1);
        due("kind first", x.teller(7, 10, 21), -1);
        due("v below", x.teller(0, -1, 0), -2);
        due("v above", x.teller(0, 10, 0), -2);
        due("weight below", x.teller(0, 0, -1), -2);
        due("weight above", x.teller(0, 0, 21), -2);
        due("none came", x.count(0), 0);
        due("edges", x.teller(6, 9, 20), 0);
        due("edges", x.teller(0, 0, 0), 1);
        for (int p = 2; p < 6; p++) {
            due("more", x.teller(p, p, p), p);
        }
        due("FULL", x.teller(0, 0, 0), -4);
        due("NONE ahead of FULL", x.teller(7, 0, 0), -1);
        due("BAD ahead of FULL", x.teller(0, 0, 21), -2);
        due("six", x.count(0), 6);
    }

    private static void ofOwnNumbers() {
        promise = 3;
        AmberGrains x = new AmberGrains();
        x.teller(1, 5, 14);
        x.teller(6, 9, 20);
        due("KIND", x.of(1, 0), 6);
        due("v", x.of(1, 1), 9);
        due("WEIGHT", x.of(1, 2), 20);
        due("STATE", x.of(1, 3), 0);
        due("AGE", x.of(1, 4), 0);
        due("PLACE", x.of(1, 5), 0);
        due("of the first", x.of(0, 1), 5);
        x.put(0, 7, 3);
        due("PLACE put", x.of(0, 5), 7);
        due("STATE put", x.of(0, 3), 3);
        due("not of another", x.of(1, 5), 0);
        due("NONE", x.of(2, 0), OUT);
        due("NONE", x.of(-1, 0), OUT);
        due("NONE", x.of(MIN, 0), OUT);
        int[] none = {-1, 9, 10, 11, 15, MAX, MIN};
        for (int what : none) {
            due("what " + what, x.of(0, what), OUT);
        }
    }

    private static void ofLoads() {
        promise = 3;
        due("TELLER", withKinds(5, 13, 0).of(0, 6), 13);
        due("BOSUN", withKinds(5, 13, 1).of(0, 6), 18);
        due("BRIDE", withKinds(5, 13, 2).of(0, 6), 6);
        due("TWIN", withKinds(5, 13, 3).of(0, 6), 13);
        due("CAPTAIN", withKinds(5, 13, 4).of(0, 6), 0);
        due("CAPTAIN of v 0", withKinds(0, 13, 4).of(0, 6), 13);
        due("CHILD", withKinds(5, 13, 5).of(0, 6), 6);
        due("TOLD", withKinds(5, 13, 6).of(0, 6), 13);

        AmberGrains x = withKinds(4, 5, 4, 5, 6);
        x.row(2, 0, 1);
        x.row(2, 3, 7);
        due("ROW of day 0", x.of(2, 6), 6);
        x.tell(0);
        x.tell(1);
        x.pass(3);
        due("CAPTAIN too young", x.of(0, 6), 0);
        due("CHILD of age 3", x.of(1, 6), 5);
        due("ROW of day 3", x.of(2, 6), 12);
        x.pass(1);
        due("CAPTAIN of age v", x.of(0, 6), 9);
        due("ROW of day 4", x.of(2, 6), 6);
        x.pass(8);
        due("CHILD of age 12", x.of(1, 6), 11);

        AmberGrains twins = withKinds(4, 5, 3, 6, 3, 0);
        twins.tell(0);
        due("not by itself", twins.of(0, 6), 5);
        due("by another TWIN", twins.of(1, 6), 10);
        due("only TWINS", twins.of(3, 6), 5);
        twins.tell(3);
        due("not by a TELLER", twins.of(0, 6), 5);
        twins.tell(1);
        due("by one TOLD", twins.of(0, 6), 10);
        twins.put(1, 0, 2);
        due("not by one ADRIFT", twins.of(0, 6), 5);
    }

    private static void ofLoadsBySea() {
        promise = 3;
        AmberGrains x = withKinds(3, 8, 0, 1, 2, 3, 4, 5);
        charted(x, "sour 20 p=0|k=1;sweet 15 k=2|k=5;sour 1 w>7;sour 2 v<4&v>2;sweet 3 !w=8");
        due("sour by number", x.of(0, 6), 31);
        due("sour by kind, BOSUN", x.of(1, 6), 34);
        due("sweet, half toward 0", x.of(2, 6), -2);
        due("more sour of one", x.of(3, 6), 11);
        due("CAPTAIN too young by a SEA", x.of(4, 6), 0);
        due("CHILD below 0", x.of(5, 6), -2);

        AmberGrains y = withKinds(9, 10, 0, 0);
        charted(y, "sour 50 a=2;sweet 30 d=3;room 99");
        y.tell(0);
        y.pass(2);
        due("by AGE", y.of(0, 6), 60);
        due("by another's AGE", y.of(1, 6), 10);
        y.pass(1);
        due("by DAY", y.of(0, 6), -20);
        y.pass(9);
        due("AGE modulo 10", y.of(0, 6), 60);
        y.pass(1);
        due("DAY modulo 10", y.of(1, 6), -20);

        AmberGrains z = withKinds(9, 10, 0);
        charted(z, "sour 1 p<0|p=0&p>0;sour 2 !p=0|p=0;sour 4 !(p=0|p=0);sour 8 p=0|p=0&p=1;sour 16 (p=0|p=0)&p=1");
        due("how tests are joined", z.of(0, 6), 20);
        charted(z, "sour 1 w>9;sour 2 w>10;sour 4 w<11;sour 8 w<10;sour 16 w=10;sour 32 w=1;sour 64 w=010");
        due("a third digit", z.of(0, 6), 20);
        charted(z, "sour 1 p=0|p=1|p=2;sour 2 p=1|p=2|p=0&p=0;sour 4 p=0&p=0&p=1;sour 8 (p=0|p=1|p=2)&p=0&!p=1|p=7");
        due("more than two of each", z.of(0, 6), 21);
        charted(z, "sour 1 p=0|p=1&p=1|p=2;sour 2 !!p=0;sour 4 !(p=1)&p=0;sour 8 !p=1&!!!p=1;sour 16 !!!p=0");
        due("more than one !", z.of(0, 6), 25);
        charted(z, "sour 1 w>9;sour 2 w>10;sour 4 w<11;sour 8 w<10;sour 16 w=10;sour 32 w=1;sour 64 v=09");
        due("comparisons", z.of(0, 6), 10 + 1 + 4 + 16 + 64);
    }

    private static void ofComes() {
        promise = 3;
        AmberGrains x = twoTold();
        due("to ADRIFT", x.of(0, 12), 1);
        due("to ASHORE", x.of(0, 13), 4);
        due("to FOUND", x.of(0, 14), 4);
        due("never", x.of(1, 12), -5);
        due("asking changes nothing", x.told(0), 0);
        x.pass(2);
        due("it is so or more", x.of(0, 12), 0);
        due("from now", x.of(0, 13), 2);
        x.put(1, 1, 4);
        due("FOUND is more than ADRIFT", x.of(1, 12), 0);
        due("FOUND", x.of(1, 14), 0);

        AmberGrains late = withKinds(9, 2, 4);
        late.tell(0);
        charted(late, "room 10");
        due("CAPTAIN comes up with age 9", late.of(0, 12), 10);

        AmberGrains bound = withKinds(0, 0, 0);
        bound.sea(0, 1);
        for (int k = 2; k <= 5; k++) {
            bound.sea(k, 0);
        }
        bound.sea(5, 1);
        bound.put(0, 0, 2);
        due("it stays on the shore", bound.of(0, 13), 1);
        bound.put(0, 1, 2);
        due("44 days round", bound.of(0, 13), 44);
        bound.sea(0, 2);
        bound.put(0, 2, 2);
        due("44 days round", bound.of(0, 13), 44);
        bound.sea(0, 0);
        due("no shore", bound.of(0, 13), -5);

        AmberGrains sixty = withKinds(0, 20, 5);
        charted(sixty, "room 18");
        sixty.tell(0);
        due("CHILD 10 and AGE 9", sixty.of(0, 12), 10);
        comesWithDay60();
    }

    /** One place a day-of-four and a far shore: what takes 60 days, and what takes more. */
    private static void comesWithDay60() {
        AmberGrains x = withKinds(0, 0, 0);
        x.sea(0, 1 << 3);
        x.sea(2, 0);
        x.sea(3, 0);
        x.sea(4, 0);
        x.sea(5, 9);
        x.put(0, 0, 2);
        // Every fourth day 9 on: 9, 6, 3.
        due("12 days", x.of(0, 13), 12);
        x.sea(0, 1 << 9);
        x.sea(5, 7);
        x.put(0, 6, 2);
        // 7 on: 1, 8, 3, 10, 5, 0, 7, 2, 9: the ninth.
        due("36 days", x.of(0, 13), 36);
        // 7 on from 9 itself: the ring is round in 12 steps, 48 days; day 1 leaves it there.
        x.put(0, 9, 2);
        due("at once", x.of(0, 13), 1);
        x.pass(3);
        due("ashore", x.of(0, 3), 3);
        x.put(0, 9, 2);
        due("round in 45 days", x.of(0, 13), 45);
        x.sea(1, 0);
        x.put(0, 9, 3);
        due("the finder comes in 9", x.of(0, 14), 9);
        x.sea(1, 9);
        due("the finder is there, but goes on first", x.of(0, 14), 12);
        due("of state 3 now", x.of(0, 13), 0);
    }

    /** Three whose loads are enough on days 19, 39, 59 alone: each time the first of them comes up. */
    private static AmberGrains longDays() {
        AmberGrains x = withKinds(0, 0, 6, 6, 6);
        for (int p = 0; p < 3; p++) {
            x.row(p, 3, 9);
        }
        charted(x, "sweet 4 d=9;sweet 50 !d=9;room 4");
        x.tell(0);
        x.tell(1);
        return x;
    }

    private static void ofSixtyDays() {
        promise = 3;
        AmberGrains x = longDays();
        due("day 19", x.of(0, 12), 20);
        due("day 39", x.of(1, 12), 40);
        due("never, as it is SILENT", x.of(2, 12), -5);
        due("by itself in 60 days", x.of(2, 8), 2);
        x.tell(2);
        due("day 59", x.of(2, 12), 60);
        x.sea(0, 1 << 9);
        due("by 4 in 60 days, from 5", x.of(2, 7), 4);
        for (int k = 2; k <= 5; k++) {
            x.sea(k, 4);
        }
        due("ashore with day 60", x.of(2, 13), 60);
        due("the finder comes later", x.of(2, 14), -5);
        x.sea(1, 8);
        due("one day later", x.of(2, 14), -5);
        x.sea(1, 9);
        due("with day 60", x.of(2, 14), 60);
        due("ON day 60", x.on(60, 12), 4);
        due("ON day 59", x.on(59, 12), 1);
        x.teller(6, 0, 0);
        x.row(3, 3, 9);
        x.tell(3);
        due("day 79", x.of(3, 12), -5);
        x.pass(19);
        due("60 days to it", x.of(3, 12), -5);
        x.pass(1);
        due("60 days to it", x.of(3, 12), 60);
        due("the first is up", x.told(5), 14);
    }

    private static void ofBlow() {
        promise = 3;
        AmberGrains x = twoTold();
        due("by 0, the first at once", x.of(0, 7), 0);
        due("none comes up", x.of(1, 7), -5);
        x.put(0, 1, 2);
        due("by 3 in one day", x.of(0, 7), 3);
        x.put(0, 9, 2);
        due("by 3 (7 as well)", x.of(0, 7), 3);
        x.put(0, 10, 2);
        due("by 2", x.of(0, 7), 2);
        x.sea(0, 0);
        due("by none", x.of(0, 7), -5);
        x.sea(0, 1);
        x.put(0, 2, 2);
        due("by 10 in one day, but 9 is most: 5 in two", x.of(0, 7), 5);
        x.sea(0, 2);
        x.put(0, 4, 2);
        due("by 9 in one", x.of(0, 7), 9);
        due("CURRENTS are as they were", x.told(10), 1);
        x.put(0, 5, 3);
        due("ashore already: the first", x.of(0, 7), 0);
        due("NONE", x.of(2, 7), OUT);
    }

    private static void ofNews() {
        promise = 3;
        AmberGrains x = new AmberGrains();
        x.teller(0, 0, 20);
        x.teller(0, 0, 11);
        x.teller(0, 0, 9);
        x.teller(0, 0, 15);
        due("nobody alone", x.of(0, 8), -5);
        x.tell(0);
        due("the first of 1 and 3", x.of(0, 8), 1);
        due("it stays under 0", x.of(2, 8), -5);
        x.tell(1);
        due("it comes up as soon as it is", x.of(0, 8), -5);
        due("asked, not told", x.of(2, 3), 0);
        due("3 alone with 1 has room, once 0 is up", x.of(3, 8), -5);
        due("so has 1 with any", x.of(1, 8), -5);

        AmberGrains self = new AmberGrains();
        self.teller(1, 9, 20);
        self.teller(1, 9, 20);
        charted(self, "room 28");
        due("itself, though 1 weighs as much", self.of(0, 8), 0);
        due("itself", self.of(1, 8), 1);
        self.tell(0);
        due("1 comes up behind 0, by itself", self.of(1, 8), 1);
        self.put(0, 0, 4);
        due("FOUND: as it is, at once", self.of(0, 8), -5);

        AmberGrains least = new AmberGrains();
        least.teller(4, 9, 20);
        least.teller(4, 5, 16);
        least.teller(4, 2, 19);
        least.tell(0);
        charted(least, "room 25");
        due("as it is", least.of(0, 12), 10);
        due("by none sooner", least.of(0, 8), -5);
        AmberGrains sooner = new AmberGrains();
        sooner.teller(0, 0, 20);
        sooner.teller(4, 9, 2);
        sooner.teller(4, 3, 9);
        sooner.teller(4, 4, 10);
        sooner.tell(0);
        due("as it is, never", sooner.of(0, 12), -5);
        due("2 with age 3, 3 with age 4, 1 with age 9", sooner.of(0, 8), 2);
        sooner.tell(3);
        due("as it is", sooner.of(0, 12), 5);
        due("2 sooner still", sooner.of(0, 8), 2);
    }

    private static void tell() {
        promise = 4;
        AmberGrains x = withKinds(1, 1, 0, 0, 0);
        due("NONE", x.tell(3), -1);
        due("NONE", x.tell(-1), -1);
        due("one", x.tell(2), 1);
        due("two", x.tell(0), 2);
        due("STATE of one WITHIN", x.tell(0), -3);
        x.put(1, 3, 2);
        due("STATE of one ADRIFT", x.tell(1), -3);
        due("STATE is WITHIN", x.of(2, 3), 1);
        x.pass(4);
        due("AGE grows", x.of(2, 4), 4);
        due("AGE of one that is not within", x.of(1, 4), 0);
    }

    private static void weigh() {
        promise = 5;
        AmberGrains x = withKinds(1, 7, 0);
        due("NONE", x.weigh(1, 0), -1);
        due("NONE first", x.weigh(-1, 21), -1);
        due("BAD", x.weigh(0, 21), -2);
        due("BAD", x.weigh(0, -1), -2);
        due("was 7", x.weigh(0, 20), 7);
        due("was 20", x.weigh(0, 0), 20);
        due("is 0", x.of(0, 2), 0);
    }

    private static void put() {
        promise = 6;
        AmberGrains x = withKinds(1, 7, 0);
        due("NONE", x.put(1, 0, 2), -1);
        due("NONE: place", x.put(0, 12, 5), -1);
        due("NONE: place", x.put(0, -1, 2), -1);
        due("BAD", x.put(0, 0, 1), -2);
        due("BAD", x.put(0, 0, 5), -2);
        due("nothing came of it", x.of(0, 3), 0);
        due("was SILENT", x.put(0, 11, 4), 0);
        due("was FOUND", x.put(0, 3, 2), 4);
        due("is there", x.of(0, 5), 3);
        due("was ADRIFT", x.put(0, 0, 3), 2);
        AmberGrains y = withKinds(1, 7, 0);
        y.tell(0);
        y.pass(2);
        due("was WITHIN", y.put(0, 1, 3), 1);
        due("AGE stays", y.of(0, 4), 2);
    }

    private static void sea() {
        promise = 7;
        AmberGrains x = new AmberGrains();
        due("NONE", x.sea(-1, 0), -1);
        due("NONE first", x.sea(6, -1), -1);
        due("BAD SHORE", x.sea(0, 4096), -2);
        due("BAD SHORE", x.sea(0, -1), -2);
        due("BAD FINDER", x.sea(1, 12), -2);
        due("BAD CURRENT", x.sea(2, 10), -2);
        due("BAD CURRENT", x.sea(5, -1), -2);
        due("SHORE was", x.sea(0, 4095), 273);
        due("SHORE was", x.sea(0, 0), 4095);
        due("FINDER was", x.sea(1, 11), 0);
        due("FINDER was", x.sea(1, 5), 11);
        for (int k = 0; k < 4; k++) {
            due("CURRENT was", x.sea(2 + k, 9 - k), 1);
        }
        for (int k = 0; k < 4; k++) {
            due("CURRENT is", x.told(10 + k), 9 - k);
        }
        due("SHORE is", x.told(2), 0);
        due("FINDER is", x.told(3), 5);
    }

    private static void row() {
        promise = 8;
        AmberGrains x = withKinds(1, 7, 6, 3, 6);
        due("NONE", x.row(3, 0, 0), -1);
        due("NONE: part", x.row(0, 4, 10), -1);
        due("NONE: part", x.row(0, -1, 0), -1);
        due("BAD", x.row(0, 0, 10), -2);
        due("BAD ahead of STATE", x.row(1, 0, -1), -2);
        due("STATE", x.row(1, 0, 1), -3);
        due("was 0", x.row(0, 3, 9), 0);
        due("was 9", x.row(0, 3, 2), 9);
        due("was 2", x.row(0, 3, 0), 2);
        due("was 0", x.row(0, 3, 2), 0);
        due("of another one", x.row(2, 3, 1), 0);
        due("of another day", x.row(0, 2, 1), 0);
        x.pass(3);
        due("in its LOAD", x.of(0, 6), 9);
    }

    private static void feed() {
        promise = 9;
        AmberGrains x = new AmberGrains();
        due("BAD", x.feed(-1), -2);
        due("BAD", x.feed(128), -2);
        due("none came", x.count(5), 0);
        due("0", x.feed(0), 1);
        due("127", x.feed(127), 2);
        for (int i = 3; i <= 100; i++) {
            due("more", x.feed('s'), i);
        }
        due("FULL", x.feed('s'), -4);
        due("BAD ahead of FULL", x.feed(128), -2);
        due("100", x.count(5), 100);
    }

    private static void chart() {
        promise = 10;
        AmberGrains x = new AmberGrains();
        due("an empty text", x.chart(), -10);
        due("a SEA", charted(x, "room 10"), 0);
        due("it holds", x.told(1), 10);
        due("the text is empty", x.count(5), 0);
        due("a FAULT", charted(x, "room 2x"), -16);
        due("the text is empty", x.count(5), 0);
        due("the one that held holds", x.told(1), 10);
        due("no room: 30", charted(x, "sour 1 p=0"), 1);
        due("no room: 30", x.told(1), 30);
        due("the last room", charted(x, "room 1;room 2;sour 1 p=0;room 3;sour 1 p=0"), 2);
        due("the last room", x.told(1), 3);
        for (int i = 3; i < 6; i++) {
            due("more", charted(x, "room " + i), i);
        }
        due("FULL", charted(x, "room 9"), -4);
        due("FULL: the text stays", x.count(5), 6);
        x.feed('x');
        due("FULL ahead of a FAULT", x.chart(), -4);
        due("the newest holds", x.told(1), 5);
        due("six", x.count(1), 6);
    }

    private static void fault(String text, int fault) {
        due("FAULT of " + text, charted(new AmberGrains(), text), -10 - fault);
    }

    private static void chartReads() {
        promise = 10;
        String[] good = {"room 0", "room 99", "sour 0 p=0", "sweet 99 d>99", "sour 1 p<1&k=2|v>3&w<4|a=5&d>6",
            "sour 1 ((((p=1))))", "sour 1 !!!!p=1", "sour 1 !(!(p=1))&!!!!p=1|((((p=1))))", "sour 1 (p=1)|p=1",
            "room 1;room 1;room 1;room 1;room 1;room 1;room 1;room 1;room 1;room 1",
            "sour 11 (((p=11|k=22)&v=33|w=44)&a=55|d=66)&!(((p=11|k=22)&v=33|w=44)&a=55|d=66);sweet 11 p=1|d<100"
                .substring(0, 98)};
        for (String text : good) {
            due(text, charted(new AmberGrains(), text), 0);
        }
        fault("x", 0);
        fault("s", 1);
        fault("sx", 1);
        fault("so", 2);
        fault("sowr 1", 2);
        fault("swe", 3);
        fault("r", 1);
        fault("room", 4);
        fault("room  1", 5);
        fault("room ", 5);
        fault("room 123", 7);
        fault("room 1 ", 6);
        fault("room 1 p=1", 6);
        fault("room 1;", 7);
        fault("room 1;;", 7);
        fault(";room 1", 0);
        fault(" room 1", 0);
        fault("Room 1", 0);
        fault("sour 1", 6);
        fault("sour 1 ", 7);
        fault("sour 1;", 6);
        fault("sour x", 5);
        fault("sour 1  p=1", 7);
        fault("sour 1 q=1", 7);
        fault("sour 1 p", 8);
        fault("sour 1 p =1", 8);
        fault("sour 1 p==1", 9);
        fault("sour 1 p;1", 8);
        fault("sour 1 p?1", 8);
        fault("sour 1 p=", 9);
        fault("sour 1 p=x", 9);
        fault("sour 1 p=123", 11);
        fault("sour 1 p=1 ", 10);
        fault("sour 1 p=1&", 11);
        fault("sour 1 p=1&&p=1", 11);
        fault("sour 1 p=1|;", 11);
        fault("sour 1 p=1)", 10);
        fault("sour 1 (p=1", 11);
        fault("sour 1 (p=1;", 11);
        fault("sour 1 ()", 8);
        fault("sour 1 p=1(", 10);
        fault("sour 1 p=1!", 10);
        fault("sour 1 !", 8);
        fault("sour 1 !;", 8);
        fault("sour 1 (((((p=1)))))", 11);
        fault("sour 1 !!!!!p=1", 11);
        fault("sour 1 !(!((p=1)))", 11);
        fault("sour 1 !(!(!p=1))", 11);
        fault("sour 1 !!!((p=1))", 11);
        fault("sour 1 ((((!p=1))))", 11);
        fault("sour 1 p=1;x", 11);
        fault("room 1;room 1;room 1;room 1;room 1;room 1;room 1;room 1;room 1;room 1;room 1", 69);
        fault("room 1;room 1;room 1;room 1;room 1;room 1;room 1;room 1;room 1;room 1;", 69);
        fault("sour 1 " + "p=1|".repeat(23), 99);
        fault("sour 1 " + "p=1|".repeat(23) + "p", 100);
        fault("sour 01 " + "p=1|".repeat(23), 100);
        fault("sour 01 " + "p=1|".repeat(22) + "p=1s", 99);
        fault("sour 01 " + "p=1|".repeat(21) + "p=1|p<;s", 98);
        fault("sour 01 " + "p=1|".repeat(21) + "p=11;s", 94 + 4);
        fault("sour 01 " + "p=1|".repeat(21) + "p=11;;s", 97);
        fault("sour 001 ", 7);
        fault("sour 1 " + "p=1|".repeat(22) + "p=1;s", 100);
        due("100 bytes", charted(new AmberGrains(), "sour 01 " + "p=1|".repeat(22) + "p=11"), 0);
    }

    private static void told() {
        promise = 11;
        AmberGrains x = withKinds(2, 10, 0, 1, 0);
        due("none within", x.told(5), 0);
        due("no loads", x.told(6), 0);
        x.tell(1);
        x.tell(2);
        due("which are within", x.told(5), 6);
        due("their loads", x.told(6), 22);
        x.put(0, 0, 4);
        due("FOUND", x.told(4), 1);
        x.put(1, 0, 4);
        due("FOUND", x.told(4), 2);
        due("within", x.told(5), 4);
        x.pass(5);
        due("DAY", x.told(0), 5);
        due("FINDER", x.told(3), 5);
        x.pass(9);
        due("FINDER round the ring", x.told(3), 2);
        x.sea(2, 3);
        x.sea(5, 8);
        due("CURRENT", x.told(10), 3);
        due("CURRENT", x.told(13), 8);
        charted(x, "sweet 40 p=2");
        due("loads below 0", x.told(6), -30);
        int[] none = {-1, 7, 8, 9, 14, MAX, MIN};
        for (int what : none) {
            due("what " + what, x.told(what), OUT);
        }
    }

    private static void pass() {
        promise = 12;
        AmberGrains x = twoTold();
        due("BAD", x.pass(-1), -2);
        due("BAD", x.pass(61), -2);
        due("no day", x.pass(0), 0);
        due("one day", x.pass(1), 1);
        due("the heaviest is up", x.of(0, 3), 2);
        due("and drifted", x.of(0, 5), 1);
        due("AGE of it", x.of(0, 4), 0);
        due("AGE of the other", x.of(1, 4), 1);
        due("FINDER", x.told(3), 1);
        due("to day 3", x.pass(2), 3);
        due("ADRIFT", x.of(0, 3), 2);
        due("to day 4", x.pass(1), 4);
        due("ashore, where the finder comes", x.of(0, 3), 4);
        due("at 4", x.of(0, 5), 4);
        due("60", x.pass(60), 64);

        AmberGrains even = withKinds(0, 15, 0, 0);
        even.tell(0);
        even.tell(1);
        even.pass(9);
        due("30 is not above 30", even.told(5), 3);
        even.weigh(1, 16);
        even.pass(1);
        due("31 is, and 1 lies heaviest", even.told(5), 1);
        due("from (9 + 3) round to 0, then 1 on", even.of(1, 5), 1);

        AmberGrains first = withKinds(0, 20, 0, 0, 0);
        first.tell(2);
        first.tell(1);
        first.pass(1);
        due("of several the first", first.told(5), 4);
        due("from 3, by the current 1", first.of(1, 5), 4);
        due("4 is shore", first.of(1, 3), 3);

        AmberGrains one = withKinds(0, 20, 0, 0, 0, 0, 0, 0);
        for (int p = 0; p < 6; p++) {
            one.tell(p);
        }
        one.pass(1);
        due("one a day", one.told(5), 62);
        one.pass(5);
        due("one a day until there is room", one.told(5), 32);

        AmberGrains current = withKinds(0, 0, 0);
        for (int k = 0; k < 4; k++) {
            current.sea(2 + k, k + 2);
        }
        current.sea(0, 0);
        current.put(0, 0, 2);
        int[] places = {2, 5, 9, 2, 4, 7, 11, 4};
        for (int d = 0; d < 8; d++) {
            current.pass(1);
            due("by the current of day " + d, current.of(0, 5), places[d]);
        }
        passBelowNothing();
    }

    /** Loads below 0 lighten the others, and the greatest of them is still the heaviest. */
    private static void passBelowNothing() {
        AmberGrains x = withKinds(0, 20, 0, 0, 0);
        for (int p = 0; p < 3; p++) {
            x.tell(p);
        }
        charted(x, "sweet 50 p<1;room 9");
        x.pass(1);
        due("20 + 20 - 30 is above 9", x.told(5), 5);
        x.pass(1);
        due("20 - 30 is not", x.told(5), 5);
        charted(x, "sweet 50 p<9;room 0");
        x.pass(1);
        due("below 0 there is room", x.told(5), 5);
        AmberGrains nothing = withKinds(0, 0, 0);
        nothing.tell(0);
        charted(nothing, "room 0");
        nothing.pass(5);
        due("0 is not above 0", nothing.told(5), 1);
    }

    private static void passToTheLastDay() {
        promise = 12;
        AmberGrains x = withKinds(0, 0, 0);
        x.tell(0);
        for (int k = 0; k < 166; k++) {
            x.pass(60);
        }
        due("day", x.told(0), 9960);
        due("STATE", x.pass(40), -3);
        due("BAD ahead of STATE", x.pass(61), -2);
        due("the last", x.pass(39), 9999);
        due("STATE", x.pass(1), -3);
        due("none", x.pass(0), 9999);
        due("AGE", x.of(0, 4), 9999);
    }

    private static void on() {
        promise = 13;
        AmberGrains x = twoTold();
        due("NONE", x.on(0, 1), -1);
        due("NONE", x.on(0, 9), -1);
        due("NONE", x.on(0, 12), -1);
        due("NONE", x.on(0, 19), -1);
        due("NONE", x.on(0, 22), -1);
        due("NONE", x.on(0, -1), -1);
        due("NONE first", x.on(61, MIN), -1);
        due("NONE", x.on(0, MAX), -1);
        due("BAD", x.on(61, 0), -2);
        due("BAD", x.on(-1, 10), -2);
        due("STATE now", x.on(0, 10), 1);
        due("STATE", x.on(1, 10), 2);
        due("PLACE", x.on(3, 20), 3);
        due("PLACE", x.on(60, 20), 4);
        due("STATE", x.on(4, 10), 4);
        due("STATE of 1", x.on(4, 11), 1);
        due("PLACE of 1", x.on(4, 21), 0);
        due("FOUND", x.on(3, 0), 0);
        due("FOUND", x.on(4, 0), 1);
        due("it changes nothing", x.told(0), 0);
        due("it changes nothing", x.of(0, 3), 1);
    }

    private static void begin() {
        promise = 14;
        AmberGrains x = withKinds(0, 0, 0, 0, 0);
        due("NONE", x.begin(1, 2), -1);
        due("NONE first", x.begin(0, -1), -1);
        due("BAD", x.begin(0, 0), -2);
        due("BAD", x.begin(21, 1), -2);
        due("of several the first", x.begin(1, 0), 0);
        due("none", x.begin(20, 1), 0);
        x.put(0, 5, 3);
        due("it comes on first", x.begin(1, 0), 4);
        due("one", x.begin(1, 1), 1);
        due("the first within three days", x.begin(3, 0), 2);
        x.put(1, 8, 3);
        x.put(2, 9, 3);
        due("two by one day's walk: none; one", x.begin(1, 1), 1);
        due("7, then 8 and 9", x.begin(2, 0), 7);
        due("two", x.begin(2, 1), 2);
        due("from 4 all", x.begin(5, 0), 4);
        due("three", x.begin(5, 1), 3);
        due("20 days: all from anywhere", x.begin(20, 0), 0);
        x.put(2, 9, 4);
        due("what is FOUND already counts", x.begin(1, 1), 2);
        x.put(1, 0, 3);
        due("from 11", x.begin(1, 0), 4);
        x.put(0, 0, 3);
        due("from 11", x.begin(1, 0), 11);
        due("FINDER stays", x.told(3), 0);
    }

    private static void see() {
        promise = 15;
        AmberGrains x = withKinds(0, 0, 0);
        due("NONE", x.see(1, 0, 0), -1);
        due("NONE", x.see(-2, 0, 0), -1);
        due("BAD", x.see(0, 13, 0), -2);
        due("BAD", x.see(0, -1, 0), -2);
        due("BAD", x.see(0, 0, 5), -2);
        due("BAD", x.see(0, 0, -1), -2);
        due("one", x.see(0, 12, 4), 1);
        for (int k = 2; k <= 5; k++) {
            due("more", x.see(0, 0, 0), k);
        }
        due("FULL", x.see(0, 0, 0), -4);
        due("BAD ahead of FULL", x.see(0, 13, 0), -2);
        due("five", x.count(2), 5);
        due("empty", x.see(-1, 99, 99), 0);
        due("empty", x.count(2), 0);
        due("empty again", x.see(-1, 0, 0), 0);
    }

    private static void weights() {
        promise = 16;
        AmberGrains x = twoTold();
        due("NONE", x.weights(2), -1);
        due("NONE", x.weights(-1), -1);
        due("all", x.weights(0), (1 << 21) - 1);
        x.see(0, 1, 2);
        due("16 to 20", x.weights(0), 0x1F0000);
        due("of the other: 11 to 20", x.weights(1), 0x1FF800);
        due("WEIGHT stays", x.of(0, 2), 20);
        x.see(0, 4, 4);
        due("the same", x.weights(0), 0x1F0000);
        x.see(1, 12, 1);
        due("the same", x.weights(0), 0x1F0000);
        x.see(0, 4, 3);
        due("not both", x.weights(0), 0);
        x.see(-1, 0, 0);
        x.see(0, 1, 1);
        due("0 to 15", x.weights(0), 0xFFFF);
        x.see(0, 0, 1);
        due("now", x.weights(0), 0xFFFF);
        x.see(0, 0, 0);
        due("not now", x.weights(0), 0);
        x.see(-1, 0, 0);
        x.see(0, 12, 4);
        due("on day 12", x.weights(0), 0x1F0000);
    }

    private static void can() {
        promise = 17;
        AmberGrains x = new AmberGrains();
        x.teller(1, 3, 20);
        x.teller(0, 0, 7);
        x.tell(0);
        x.tell(1);
        due("NONE", x.can(2, 0), -1);
        due("NONE", x.can(0, 2), -1);
        due("NONE", x.can(0, -1), -1);
        due("all", x.can(0, 0), 10);
        due("the least", x.can(0, 1), 0);
        x.see(0, 1, 2);
        due("4 to 9", x.can(0, 0), 6);
        due("4", x.can(0, 1), 4);
        due("of the other: none", x.can(1, 0), 0);
        due("of the other: none", x.can(1, 1), -5);
        due("v stays", x.of(0, 1), 3);
        x.see(-1, 0, 0);
        x.see(1, 9, 1);
        due("all", x.can(0, 0), 10);
        x.see(0, 9, 1);
        due("0 to 3", x.can(0, 0), 4);
    }

    private static void odds() {
        promise = 18;
        AmberGrains x = withKinds(0, 0, 0);
        due("NO", x.odds(1, 0, 0), NO);
        due("NO", x.odds(-1, 0, 0), NO);
        due("NO", x.odds(0, -1, 0), NO);
        due("NO", x.odds(0, 21, 0), NO);
        due("NO", x.odds(0, 0, 2), NO);
        due("NO", x.odds(0, 0, -1), NO);
        due("not: 0", x.odds(0, 5, 0), 0);
        due("not: 0 / 1", x.odds(0, 5, 1), 1);
        x.put(0, 6, 3);
        due("now: 0", x.odds(0, 0, 0), 0);
        due("1", x.odds(0, 1, 0), 1);
        due("1 / 12", x.odds(0, 1, 1), 12);
        due("8", x.odds(0, 8, 0), 2);
        due("8 / 12", x.odds(0, 8, 1), 3);
        due("5", x.odds(0, 5, 0), 5);
        due("5 / 12", x.odds(0, 5, 1), 12);
        due("10", x.odds(0, 10, 0), 5);
        due("10 / 12", x.odds(0, 10, 1), 6);
        due("12", x.odds(0, 12, 0), 1);
        due("12 / 12", x.odds(0, 12, 1), 1);
        due("20", x.odds(0, 20, 1), 1);
        x.put(0, 6, 4);
        due("it is FOUND", x.odds(0, 0, 0), 1);
        due("it is FOUND", x.odds(0, 0, 1), 1);
    }

    private static void mean() {
        promise = 19;
        AmberGrains x = withKinds(0, 10, 0, 0, 0);
        due("NO", x.mean(0), NO);
        due("NO", x.mean(1), NO);
        x.tell(0);
        due("10", x.mean(0), 10);
        due("1", x.mean(1), 1);
        due("NO", x.mean(2), NO);
        due("NO", x.mean(-1), NO);
        x.tell(1);
        x.weigh(1, 7);
        due("17", x.mean(0), 17);
        due("2", x.mean(1), 2);
        x.tell(2);
        due("9", x.mean(0), 9);
        due("1", x.mean(1), 1);
        charted(x, "sweet 18 p>0");
        due("27 - 36", x.mean(0), -3);
        due("1", x.mean(1), 1);
        charted(x, "sweet 14 p>0");
        due("27 - 28", x.mean(0), -1);
        due("3", x.mean(1), 3);
        charted(x, "sweet 9 p<3");
        due("0", x.mean(0), 0);
        due("0 / 1", x.mean(1), 1);
    }

    private static void plan() {
        promise = 20;
        AmberGrains x = withKinds(0, 0, 0);
        due("NONE", x.plan(4, 0), -1);
        due("NONE", x.plan(-2, 0), -1);
        due("NONE: teller", x.plan(1, 1), -1);
        due("NONE: teller", x.plan(2, -1), -1);
        due("NONE: PLACE", x.plan(3, 12), -1);
        due("NONE: PLACE", x.plan(3, -1), -1);
        due("n does not matter", x.plan(0, MIN), 1);
        due("told", x.plan(1, 0), 2);
        due("silent", x.plan(2, 0), 3);
        due("finder", x.plan(3, 11), 4);
        for (int k = 5; k <= 10; k++) {
            due("more", x.plan(0, 0), k);
        }
        due("FULL", x.plan(0, 0), -4);
        due("NONE ahead of FULL", x.plan(4, 0), -1);
        due("ten", x.count(3), 10);
        due("empty", x.plan(-1, 99), 0);
        due("empty", x.count(3), 0);
    }

    private static void ends() {
        promise = 21;
        AmberGrains x = withKinds(0, 20, 0, 0);
        due("NONE", x.ends(2), -1);
        due("NONE", x.ends(-1), -1);
        due("no plan", x.ends(1), 0);
        x.plan(1, 1);
        due("told", x.ends(1), 2);
        x.plan(1, 0);
        due("both", x.ends(1), 3);
        x.plan(0, 0);
        due("the first is up", x.ends(1), 2);
        x.plan(1, 0);
        due("it is not SILENT", x.ends(1), 2);
        x.plan(2, 0);
        x.plan(1, 0);
        due("SILENT, and told anew", x.ends(1), 3);
        x.plan(2, 1);
        due("the other is SILENT", x.ends(1), 1);
        due("nothing is changed", x.told(5), 0);
        x.plan(-1, 0);
        x.put(0, 4, 3);
        x.plan(3, 3);
        due("none yet", x.ends(0), 0);
        x.plan(0, 0);
        due("found", x.ends(0), 1);
        x.plan(-1, 0);
        x.plan(3, 4);
        x.plan(0, 0);
        due("it came on", x.ends(0), 0);
        due("FINDER stays", x.told(3), 0);

        AmberGrains age = withKinds(2, 20, 4, 0);
        age.tell(0);
        age.tell(1);
        age.pass(1);
        age.plan(0, 0);
        age.plan(0, 0);
        due("the captain is up with age 2", age.ends(1), 2);
        age.plan(-1, 0);
        age.plan(2, 0);
        age.plan(1, 0);
        age.plan(0, 0);
        age.plan(0, 0);
        due("its AGE is 0 anew", age.ends(1), 3);
        age.plan(0, 0);
        due("until it is 2", age.ends(1), 2);

        AmberGrains child = withKinds(0, 20, 5);
        charted(child, "sour 40 a=0;room 25");
        child.tell(0);
        child.plan(2, 0);
        due("SILENT", child.ends(1), 0);
    }

    private static void book() {
        promise = 22;
        AmberGrains x = withKinds(0, 0, 0);
        due("NONE", x.book(1, 0), -1);
        due("NONE", x.book(-2, 0), -1);
        due("NONE", x.book(0, 12), -1);
        due("NONE", x.book(0, -1), -1);
        for (int k = 1; k <= 8; k++) {
            due("more", x.book(0, 12 - k), k);
        }
        due("FULL", x.book(0, 0), -4);
        due("NONE ahead of FULL", x.book(0, 12), -1);
        due("eight", x.count(4), 8);
        due("empty", x.book(-1, 99), 0);
        due("empty", x.count(4), 0);
    }

    private static void looked() {
        promise = 23;
        AmberGrains x = withKinds(0, 0, 0, 0);
        due("no rows", x.looked(), -5);
        x.book(0, 0);
        x.book(1, 0);
        due("so it is", x.looked(), -5);
        x.book(1, 3);
        due("not the third", x.looked(), 2);
        x.put(1, 3, 4);
        due("not the second", x.looked(), 1);
        x.put(0, 1, 4);
        due("not the first", x.looked(), 0);
        x.book(-1, 0);
        due("no rows", x.looked(), -5);
    }

    private static void judge() {
        promise = 24;
        AmberGrains x = withKinds(0, 0, 0, 0, 0);
        due("NONE", x.judge(6, 0), -1);
        due("NONE", x.judge(-1, 0), -1);
        due("it holds nothing", x.judge(0, 0), 100);
        due("it holds nothing", x.judge(0, -1), 100);
        int[] others = {0, 1, 3, 4};
        for (int sort : others) {
            x.tape(0, sort, 9);
            due("CAST", x.judge(0, 0), -12);
            due("CAST first", x.judge(0, -1), -12);
        }
        x.tape(0, 2, 5);
        due("all 0", x.judge(0, 0), -5);
        due("all 0", x.judge(0, 2), -5);
        due("it ends", x.judge(0, 3), 102);
        due("it ends", x.judge(0, 5), 100);
        due("it ends", x.judge(0, MAX), 100);
        due("below 0", x.judge(0, -1), 100);
        due("below 0", x.judge(0, MIN), 100);
        x.tell(1);
        x.pass(7);
        due("1 is 7", x.judge(0, 0), 1);
        due("otherwise ahead of the end", x.judge(0, 3), 1);
        x.item(0, 4, 7);
        due("1 is 7, then it ends", x.judge(0, 3), 102);
        x.item(0, 1, 7);
        due("so they are", x.judge(0, 0), -5);
        x.item(0, 2, 1);
        due("2 is otherwise", x.judge(0, 0), 2);
        AmberGrains empty = new AmberGrains();
        due("no tellers, no tape", empty.judge(0, -1), -5);
        empty.tape(1, 2, 0);
        due("no tellers", empty.judge(1, -1), -5);
        empty.tape(1, 0, 0);
        due("CAST all the same", empty.judge(1, 0), -12);
    }

    private static void image() {
        promise = 25;
        AmberGrains x = new AmberGrains();
        due("none", x.image(), 0);
        x.teller(0, 0, 0);
        x.teller(0, 0, 0);
        due("two", x.image(), 2);
        x.teller(0, 0, 0);
        due("the latest image is the one", x.undo(), 2);
    }

    private static void undo() {
        promise = 26;
        AmberGrains x = new AmberGrains();
        due("STATE", x.undo(), -3);
        x.teller(6, 5, 9);
        x.teller(0, 1, 2);
        x.row(0, 1, 4);
        x.tell(0);
        charted(x, "room 14");
        x.pass(5);
        x.sea(0, 100);
        x.sea(1, 7);
        x.sea(3, 8);
        x.see(0, 1, 1);
        x.plan(1, 1);
        x.book(0, 0);
        x.image();
        x.teller(1, 1, 1);
        x.row(0, 1, 8);
        x.weigh(0, 20);
        x.tell(1);
        charted(x, "sour 90 p=0;room 22");
        x.pass(6);
        x.sea(0, 1);
        x.sea(1, 1);
        x.sea(3, 1);
        x.see(0, 1, 2);
        x.plan(2, 0);
        x.book(-1, 0);
        x.put(1, 9, 4);
        x.tape(0, 2, 3);
        x.act(0, 1, 1);
        x.feed('r');
        for (int times = 0; times < 2; times++) {
            due("undo", x.undo(), 2);
            due("TELLERS", x.count(0), 2);
            due("WEIGHT", x.of(0, 2), 9);
            due("STATE", x.of(0, 3), 1);
            due("STATE", x.of(1, 3), 0);
            due("PLACE", x.of(1, 5), 0);
            due("AGE", x.of(0, 4), 5);
            due("ROW and SEA", x.of(0, 6), 13);
            due("DAY", x.told(0), 5);
            due("ROOM", x.told(1), 14);
            due("SHORE", x.told(2), 100);
            due("FINDER", x.told(3), 7);
            due("CURRENT", x.told(11), 8);
            due("SEEN", x.count(2), 1);
            due("PLAN", x.count(3), 1);
            due("BOOK", x.count(4), 1);
            due("SEAS stay", x.count(1), 2);
            due("THE TEXT stays", x.count(5), 1);
            due("THE TRACE stays", x.count(6) > 0 ? 1 : 0, 1);
            due("TAPES stay", x.read(0, 2), 0);
            x.pass(9);
            x.weigh(0, 1);
            x.sea(4, 9);
        }
        x.undo();
        due("a new one, all its own", x.teller(6, 0, 0), 2);
        due("all its own", x.of(2, 4), 0);
        undoReachesTheRows();
        undoReachesTheLast();
    }

    private static void undoReachesTheLast() {
        AmberGrains x = withKinds(0, 20, 6, 6, 6, 6, 6, 6);
        for (int p = 0; p < 6; p++) {
            for (int part = 0; part < 4; part++) {
                x.row(p, part, p + part);
            }
            x.put(p, p + 6, 3);
        }
        x.image();
        for (int p = 0; p < 6; p++) {
            for (int part = 0; part < 4; part++) {
                x.row(p, part, 9);
            }
            x.put(p, 0, 2);
            x.weigh(p, 0);
        }
        x.undo();
        for (int p = 0; p < 6; p++) {
            due("WEIGHT", x.of(p, 2), 20);
            due("STATE", x.of(p, 3), 3);
            due("PLACE", x.of(p, 5), p + 6);
            for (int part = 0; part < 4; part++) {
                due("ROW", x.row(p, part, 0), p + part);
            }
        }
    }

    /** What the rows say comes back, too, and a number that came and went is another's then. */
    private static void undoReachesTheRows() {
        AmberGrains x = twoTold();
        x.see(0, 1, 2);
        x.book(0, 5);
        x.plan(0, 0);
        x.image();
        x.see(-1, 0, 0);
        x.see(0, 1, 1);
        x.book(-1, 0);
        x.book(0, 0);
        x.plan(-1, 0);
        x.plan(2, 1);
        x.undo();
        due("SEEN", x.weights(0), 0x1F0000);
        due("BOOK", x.looked(), 0);
        due("PLAN", x.ends(1), 2);
        x.teller(6, 9, 9);
        x.row(2, 0, 9);
        x.put(2, 9, 4);
        x.undo();
        x.teller(6, 1, 1);
        due("STATE", x.of(2, 3), 0);
        due("PLACE", x.of(2, 5), 0);
        due("ROW", x.row(2, 0, 1), 0);
        AmberGrains y = new AmberGrains();
        y.image();
        charted(y, "room 7");
        y.undo();
        due("no SEA holds", y.told(1), 30);
        due("but it is there", y.count(1), 1);
        due("the next number", charted(y, "room 8"), 1);
        due("the newest holds", y.told(1), 8);
    }

    private static void acted(int kind, int sinks, int sighs, int tells) {
        // Number 2, v 5.
        AmberGrains x = new AmberGrains();
        x.teller(0, 0, 0);
        x.teller(0, 0, 0);
        x.teller(kind, 5, 0);
        due("sinks of KIND " + kind, x.act(2, 0, 10), sinks);
        due("sighs of KIND " + kind, x.act(2, 1, 10), sighs);
        due("tells of KIND " + kind, x.act(2, 2, 10), tells);
    }

    private static void act() {
        promise = 27;
        acted(0, 12, 7, 14);
        acted(1, 12, 7 ^ 6, (7 ^ 6) * 2);
        acted(2, 32, 27, 54);
        // 14, and sighs(1), that is 3 - 5.
        acted(3, 12, 7, 12);
        // sighs: 11 on: -13 - 5 = -18, ^ 6.
        acted(4, -12, -18 ^ 6, (-18 ^ 6) * 2);
        // tells: (10 - 2) * 3 + 2 - 5 = 21, twice.
        acted(5, 32, 27, 42);
        // sighs: (12 ^ 5) - 5 + 4 = 8; tells: 16, and sighs(1): (3 ^ 5) - 5 + 4 = 5.
        acted(6, 12 ^ 5, 8, 21);
        AmberGrains x = withKinds(9, 0, 0, 2);
        due("wraps", x.act(0, 2, MIN), (MIN - 9) * 2);
        due("wraps", x.act(1, 0, MAX), MAX * 3 + 1);
        due("no such one", x.act(2, 0, 1), 0);
        due("no such one", x.act(-1, 0, 1), 0);
        due("no such act", x.act(0, 3, 1), 0);
        due("no such act", x.act(0, -1, 1), 0);
    }

    private static void traced(int kind, int act, int... bodies) {
        AmberGrains x = withKinds(5, 0, kind);
        x.act(0, act, 3);
        due("bodies of KIND " + kind, x.count(6), bodies.length);
        for (int i = 0; i < bodies.length; i++) {
            due("body " + i + " of KIND " + kind, x.trace(i), bodies[i]);
        }
        due("behind the last", x.trace(bodies.length), -1);
        due("ahead of the first", x.trace(-1), -1);
        due("far behind", x.trace(MAX), -1);
        x.act(0, 9, 3);
        due("no TRACE then", x.count(6), 0);
        due("no TRACE then", x.trace(0), -1);
    }

    private static void trace() {
        promise = 28;
        due("none yet", withKinds(0, 0, 0).trace(0), -1);
        traced(0, 0, 10);
        traced(0, 1, 11, 10);
        traced(0, 2, 12, 11, 10);
        traced(1, 1, 20, 11, 10);
        traced(2, 0, 30, 10);
        traced(2, 2, 12, 11, 30, 10);
        traced(3, 2, 40, 12, 11, 10, 11, 10);
        traced(4, 0, 50, 10);
        traced(4, 2, 12, 51, 20, 11, 50, 10);
        traced(5, 2, 60, 12, 11, 30, 10);
        traced(6, 1, 70, 11, 71, 10, 10);
        traced(6, 2, 40, 12, 70, 11, 71, 10, 10, 70, 11, 71, 10, 10);
        AmberGrains x = withKinds(0, 0, 6);
        x.act(0, 2, 1);
        x.act(0, 0, 1);
        due("the latest", x.trace(0), 71);
        due("the latest", x.count(6), 2);
        x.act(3, 0, 1);
        due("no such one: none", x.count(6), 0);
    }

    private static void taken() {
        promise = 29;
        int[][] fits = {{0}, {0, 1}, {0, 2}, {0, 3}, {0, 1, 4}, {0, 2, 5}, {0, 3, 6}};
        for (int kind = 0; kind <= 6; kind++) {
            AmberGrains x = withKinds(0, 0, kind);
            for (int k = 0; k <= 6; k++) {
                long want = -12;
                for (int fit : fits[kind]) {
                    want = fit == k ? kind : want;
                }
                due(kind + " for " + k, x.taken(0, k), want);
            }
            due("BAD", x.taken(0, 7), -2);
            due("BAD first", x.taken(1, -1), -2);
            due("NOTHING", x.taken(1, 0), -11);
            due("NOTHING", x.taken(-1, 0), -11);
        }
    }

    private static void count() {
        promise = 30;
        AmberGrains x = withKinds(0, 0, 0, 0);
        charted(x, "room 1");
        x.see(0, 0, 0);
        x.see(0, 0, 0);
        x.see(0, 0, 0);
        for (int k = 0; k < 4; k++) {
            x.plan(0, 0);
        }
        for (int k = 0; k < 5; k++) {
            x.book(0, 0);
        }
        for (int k = 0; k < 7; k++) {
            x.feed(' ');
        }
        x.act(0, 1, 0);
        int[] want = {2, 1, 3, 4, 5, 7, 2};
        for (int what = 0; what < want.length; what++) {
            due("count " + what, x.count(what), want[what]);
        }
        due("BAD", x.count(7), -2);
        due("BAD", x.count(-1), -2);
        due("BAD", x.count(MIN), -2);
    }

    private static void tape() {
        promise = 31;
        AmberGrains x = new AmberGrains();
        due("NONE", x.tape(6, 0, 1), -1);
        due("NONE first", x.tape(-1, 9, 99), -1);
        due("BAD", x.tape(0, 5, 0), -2);
        due("BAD", x.tape(0, -2, 0), -2);
        due("BAD", x.tape(0, 0, 61), -2);
        due("BAD ahead of SIZE", x.tape(0, 5, -1), -2);
        due("SIZE", x.tape(0, 0, -1), -14);
        due("SIZE", x.tape(0, 4, MIN), -14);
        due("60", x.tape(0, 3, 60), 1);
        due("the last", x.item(0, 59, 5), 1);
        due("it stays by a refusal", x.tape(0, 3, 61), -2);
        due("it stays by a refusal", x.read(0, 59), 5);
        due("anew", x.tape(0, 3, 60), 1);
        due("all 0", x.read(0, 59), 0);
        due("none", x.tape(0, 0, 0), 1);
        due("no place", x.item(0, 0, 1), -13);
        due("nothing", x.tape(0, -1, MIN), 1);
        due("nothing", x.item(0, 0, 1), -11);
        due("nothing of nothing", x.tape(0, -1, 99), 1);
    }

    private static void item() {
        promise = 32;
        AmberGrains x = new AmberGrains();
        due("NONE", x.item(6, 0, 1), -1);
        due("NONE", x.item(-1, 0, 1), -1);
        due("NOTHING", x.item(0, -1, 1), -11);
        long[] values = {200, -129, 40000, 1L << 31, 1L << 40, -1, 256, 3, 0};
        for (long v : values) {
            long[] want = {(byte) v, (short) v, (int) v, v, v == 0 ? 0 : 1};
            for (int sort = 0; sort < 5; sort++) {
                x.tape(sort, sort, 3);
                due("item", x.item(sort, 1, v), 1);
                due("sort " + sort + " of " + v, x.read(sort, 1), want[sort]);
                due("ahead of it", x.read(sort, 0), 0);
                due("behind it", x.read(sort, 2), 0);
            }
        }
        due("PLACE", x.item(0, 3, 1), -13);
        due("PLACE", x.item(0, -1, 1), -13);
        due("PLACE", x.item(0, MAX, 1), -13);
    }

    private static void read() {
        promise = 33;
        AmberGrains x = new AmberGrains();
        due("no TAPE", x.read(6, 0), NO);
        due("no TAPE", x.read(-1, 0), NO);
        due("nothing", x.read(0, 0), NO);
        x.tape(0, 3, 2);
        x.item(0, 0, NO + 1);
        due("item", x.read(0, 0), NO + 1);
        due("item", x.read(0, 1), 0);
        due("no place", x.read(0, 2), NO);
        due("no place", x.read(0, -1), NO);
        due("no place", x.read(0, MIN), NO);
        x.tape(0, -1, 0);
        due("nothing any more", x.read(0, 0), NO);
    }

    private static void rowIs(AmberGrains x, int tape, long... want) {
        for (int i = 0; i < want.length; i++) {
            due("item " + i + " of " + tape, x.read(tape, i), want[i]);
        }
    }

    private static void shift() {
        promise = 34;
        AmberGrains x = new AmberGrains();
        x.tape(0, 1, 5);
        x.tape(1, 1, 4);
        x.tape(2, 0, 4);
        for (int i = 0; i < 5; i++) {
            x.item(0, i, i + 1);
        }
        due("NONE", x.shift(6, 0, 0, 0, 0), -1);
        due("NONE", x.shift(0, 0, -1, 0, 0), -1);
        due("NONE first", x.shift(3, 0, 6, 0, 0), -1);
        due("NOTHING", x.shift(0, 0, 3, 0, -1), -11);
        due("NOTHING", x.shift(3, 0, 0, 0, 0), -11);
        due("CAST", x.shift(0, 0, 2, 0, -1), -12);
        int[][] wrongPlaces = {{-1, 0, 1}, {0, -1, 1}, {0, 0, -1}, {3, 0, 3}, {0, 2, 3}, {0, 0, 5}, {6, 0, 0},
            {0, 5, 0}, {MAX, 0, 1}, {0, MAX, 1}, {0, 0, MAX}, {MAX, MAX, MAX}, {1, 1, MAX}};
        for (int[] w : wrongPlaces) {
            due("PLACE", x.shift(0, w[0], 1, w[1], w[2]), -13);
        }
        rowIs(x, 1, 0, 0, 0, 0);
        due("none, at the ends", x.shift(0, 5, 1, 4, 0), 0);
        due("two", x.shift(0, 3, 1, 1, 2), 2);
        rowIs(x, 1, 0, 4, 5, 0);
        rowIs(x, 0, 1, 2, 3, 4, 5);
        due("up within itself", x.shift(0, 0, 0, 1, 4), 4);
        rowIs(x, 0, 1, 1, 2, 3, 4);
        due("down within itself", x.shift(0, 2, 0, 0, 3), 3);
        rowIs(x, 0, 2, 3, 4, 3, 4);
        due("all", x.shift(1, 0, 0, 1, 4), 4);
        rowIs(x, 0, 2, 0, 4, 5, 0);
    }

    /** What is asked goes on beyond day 9999, AGES too: age 10000 ends with 0, as day 10000 does. */
    private static void beyondTheLastDay() {
        promise = 13;
        AmberGrains x = withKinds(0, 0, 0);
        x.tell(0);
        for (int k = 0; k < 166; k++) {
            x.pass(60);
        }
        x.pass(39);
        charted(x, "sour 50 a=1&d=1");
        due("not on day 10000", x.on(2, 10), 1);
        due("on day 10001", x.on(3, 10), 2);
        due("from (10001 + 0) modulo 12 on, by 1", x.on(3, 20), 6);
        due("COMES", x.of(0, 12), 3);
        due("DAY stays", x.told(0), 9999);
    }
}
