/** Edges of what tellers are and of what is told of them: promises 1 to 8 and 11. */
public final class TellersEdgesTest {
    public static void main(String[] args) {
        Edges.run(TellersEdgesTest.class);
    }

    // ---- promise 1

    // Promise 1: "No TELLERS, no SEA."
    private static void aNewObjectIsEmpty() {
        AmberGrains x = new AmberGrains();
        Edges.due("count(0)", x.count(0), 0);
        Edges.due("count(1)", x.count(1), 0);
        Edges.due("of(0, 0)", x.of(0, 0), Edges.OUT);
        Edges.due("told(5)", x.told(5), 0);
    }

    // Promise 1 (Terms 1): "SHORE is a set of them, as bits (273 at first)."
    private static void shoreAtFirst() {
        Edges.due("told(2)", new AmberGrains().told(2), 273);
    }

    // Promise 1 (Terms 1): "CURRENTS: four numbers (0 .. 9; 1 at first);"
    private static void currentsAtFirst() {
        AmberGrains x = new AmberGrains();
        for (int k = 0; k < 4; k++) {
            Edges.due("told(1" + k + ")", x.told(10 + k), 1);
        }
    }

    // Promise 1 (Terms 1): "FINDER: a PLACE (0 at first)."
    private static void finderAtFirst() {
        Edges.due("told(3)", new AmberGrains().told(3), 0);
    }

    // Promise 1 (Terms 1): "DAY: 0 at first."
    private static void dayAtFirst() {
        Edges.due("told(0)", new AmberGrains().told(0), 0);
    }

    // Promise 1 (Terms 1): "without one there are no CLAUSES. ROOM (30 without)"
    private static void roomWithoutASea() {
        AmberGrains x = Edges.tellers(9, 17, 0);
        Edges.due("told(1)", x.told(1), 30);
        Edges.due("LOAD by no CLAUSES", x.of(0, 6), 17);
    }

    // ---- promise 2

    // Promise 2 (Terms 1): "TELLERS 0 .. 5, as they come,"
    // Promise 2: "A TELLER: its number."
    private static void tellersAreNumberedAsTheyCome() {
        AmberGrains x = new AmberGrains();
        for (int p = 0; p <= 5; p++) {
            Edges.due("teller", x.teller(6 - p, p, p), p);
            Edges.due("count(0)", x.count(0), p + 1);
        }
        for (int p = 0; p <= 5; p++) {
            Edges.due("KIND", x.of(p, 0), 6 - p);
        }
    }

    // Promise 2 (Terms 1): "are of KINDS: 0 TELLER; 1 BOSUN, 2 BRIDE, 3 TWIN under TELLER; 4 CAPTAIN under BOSUN;"
    // Promise 2 (Terms 1): "5 CHILD under BRIDE; 6 TOLD under TWIN;"
    private static void kindsAllowed() {
        for (int kind = 0; kind <= 6; kind++) {
            AmberGrains x = new AmberGrains();
            Edges.due("teller of KIND " + kind, x.teller(kind, 0, 0), 0);
            Edges.due("KIND", x.of(0, 0), kind);
        }
    }

    // Promise 2: "NONE: kind;"
    private static void kindsRefused() {
        for (int kind : Edges.outside(0, 6)) {
            Edges.changesNothing(Edges.BUSY, -1, "teller(" + kind + ", 0, 0)", x -> x.teller(kind, 0, 0));
        }
    }

    // Promise 2 (Terms 1): "with a number v (0 .. 9),"
    private static void numbersAllowed() {
        AmberGrains x = new AmberGrains();
        Edges.due("v 0", x.teller(1, 0, 7), 0);
        Edges.due("v 9", x.teller(1, 9, 7), 1);
        Edges.due("v", x.of(0, 1), 0);
        Edges.due("v", x.of(1, 1), 9);
    }

    // Promise 2: "BAD: v,"
    private static void numbersRefused() {
        for (int v : Edges.outside(0, 9)) {
            Edges.changesNothing(Edges.BUSY, -2, "teller(0, " + v + ", 0)", x -> x.teller(0, v, 0));
        }
    }

    // Promise 2 (Terms 1): "a WEIGHT (0 .. 20),"
    private static void weightsAllowed() {
        AmberGrains x = new AmberGrains();
        Edges.due("WEIGHT 0", x.teller(1, 3, 0), 0);
        Edges.due("WEIGHT 20", x.teller(1, 3, 20), 1);
        Edges.due("WEIGHT", x.of(0, 2), 0);
        Edges.due("WEIGHT", x.of(1, 2), 20);
    }

    // Promise 2: "weight (0 .. 20);"
    private static void weightsRefused() {
        for (int weight : Edges.outside(0, 20)) {
            Edges.changesNothing(Edges.BUSY, -2, "teller(0, 0, " + weight + ")", x -> x.teller(0, 0, weight));
        }
    }

    // Promise 2: "FULL: 6."
    private static void theSeventhIsRefused() {
        Edges.due("the sixth", Edges.busy().teller(0, 0, 0), 5);
        Edges.changesNothing(Edges.FILLED, -4, "teller(0, 0, 0)", x -> x.teller(0, 0, 0));
        Edges.changesNothing(Edges.FILLED, -4, "teller(6, 9, 20)", x -> x.teller(6, 9, 20));
    }

    // Promise 2: "NONE: kind; BAD: v, weight (0 .. 20); FULL: 6."
    private static void tellerRefusesInOrder() {
        AmberGrains full = Edges.filled();
        for (int kind : Edges.around(0, 6)) {
            for (int v : Edges.around(0, 9)) {
                for (int weight : Edges.around(0, 20)) {
                    boolean good = Edges.in(v, 0, 9) && Edges.in(weight, 0, 20);
                    String call = "teller(" + kind + ", " + v + ", " + weight + ")";
                    long room = !Edges.in(kind, 0, 6) ? -1 : good ? 0 : -2;
                    Edges.due(call, new AmberGrains().teller(kind, v, weight), room);
                    Edges.due(call + " of six", full.teller(kind, v, weight), room == 0 ? -4 : room);
                }
            }
        }
        Edges.due("count(0)", full.count(0), 6);
    }

    // Promise 2 (Terms 1): "a STATE (0 SILENT, at first; 1 WITHIN; 2 ADRIFT; 3 ASHORE; 4 FOUND),"
    private static void stateAtFirst() {
        Edges.due("STATE", Edges.tellers(9, 20, 6).of(0, 3), 0);
    }

    // Promise 2 (Terms 1): "an AGE (0 .. 9999; 0 at first),"
    private static void ageAtFirst() {
        AmberGrains x = new AmberGrains();
        x.pass(9);
        x.teller(5, 9, 20);
        Edges.due("AGE", x.of(0, 4), 0);
    }

    // Promise 2 (Terms 1): "a PLACE (0 at first)."
    private static void placeAtFirst() {
        AmberGrains x = new AmberGrains();
        x.sea(1, 7);
        x.teller(5, 9, 20);
        Edges.due("PLACE", x.of(0, 5), 0);
    }

    // Promise 2 (Terms 1): "and its ROW (four numbers 0 .. 9; 0 at first)"
    private static void rowAtFirst() {
        AmberGrains x = Edges.tellers(9, 20, 6);
        for (int part = 0; part < 4; part++) {
            Edges.due("ROW", x.row(0, part, 0), 0);
        }
    }

    // ---- promise 3

    // Promise 3: "Of a TELLER what 0 KIND, 1 v, 2 WEIGHT, 3 STATE, 4 AGE, 5 PLACE,"
    private static void ofAnswersTheFirstAndTheLast() {
        AmberGrains x = Edges.told(0, 0, 0, 0, 0, 0, 0);
        x.teller(6, 9, 20);
        x.pass(9);
        x.tell(5);
        x.pass(3);
        x.put(5, 11, 4);
        int[] first = {0, 0, 0, 1, 12, 0};
        int[] last = {6, 9, 20, 4, 3, 11};
        for (int what = 0; what <= 5; what++) {
            Edges.due("of(0, " + what + ")", x.of(0, what), first[what]);
            Edges.due("of(5, " + what + ")", x.of(5, what), last[what]);
        }
    }

    // Promise 3: "6 LOAD (whatever its STATE is),"
    private static void loadInEachState() {
        AmberGrains x = Edges.tellers(4, 13, 1);
        Edges.due("LOAD of one SILENT", x.of(0, 6), 17);
        x.tell(0);
        Edges.due("LOAD of one WITHIN", x.of(0, 6), 17);
        for (int state = 2; state <= 4; state++) {
            x.put(0, 3, state);
            Edges.due("LOAD in STATE " + state, x.of(0, 6), 17);
        }
    }

    // Promise 3: "10 and k COMES to STATE k (2 .. 4; -5)."
    private static void comesToStatesTwoToFour() {
        AmberGrains x = Edges.told(0, 1, 0);
        for (int what = 12; what <= 14; what++) {
            Edges.due("of(0, " + what + ")", x.of(0, what), -5);
        }
        for (int what : new int[] {9, 10, 11, 15}) {
            Edges.due("of(0, " + what + ")", x.of(0, what), Edges.OUT);
        }
    }

    // Promise 3: "7 BLOW (-5), 8 NEWS (-5),"
    private static void blowAndNewsMayBeNone() {
        AmberGrains x = Edges.told(0, 1, 0);
        Edges.due("BLOW", x.of(0, 7), -5);
        Edges.due("NEWS", x.of(0, 8), -5);
    }

    // Promise 3: "-10001: NONE."
    private static void noSuchTeller() {
        for (int p : Edges.outside(0, 4)) {
            for (int what : new int[] {0, 6, 7, 8, 12}) {
                String call = "of(" + p + ", " + what + ")";
                Edges.changesNothing(Edges.BUSY, Edges.OUT, call, x -> x.of(p, what));
            }
        }
        for (int p : Edges.outside(0, 5)) {
            Edges.changesNothing(Edges.FILLED, Edges.OUT, "of(" + p + ", 0)", x -> x.of(p, 0));
        }
        Edges.due("of(0, 0) without TELLERS", new AmberGrains().of(0, 0), Edges.OUT);
        Edges.due("of(-1, 0) without TELLERS", new AmberGrains().of(-1, 0), Edges.OUT);
    }

    // Promise 3 (Answers): "Where it may be below 0, -10001 stands for NONE."
    private static void noSuchWhat() {
        for (int what : new int[] {Edges.MIN, -2, -1, 9, 10, 11, 15, 16, 20, Edges.MAX}) {
            Edges.changesNothing(Edges.BUSY, Edges.OUT, "of(0, " + what + ")", x -> x.of(0, what));
        }
    }

    // Promise 3 (Answers): "what is asked changes nothing."
    private static void ofChangesNothing() {
        for (int p = 0; p <= 4; p++) {
            for (int what = 0; what <= 14; what++) {
                int one = p;
                int asked = what;
                Edges.asks(Edges.BUSY, "of(" + p + ", " + what + ")", x -> x.of(one, asked));
            }
        }
    }

    // ---- LOADS

    /** LOAD of one of this KIND and this v for WEIGHT, and what the SEA of this text adds. */
    private static long load(int kind, int v, int weight, String text) {
        AmberGrains x = Edges.tellers(v, weight, kind);
        if (!text.isEmpty()) {
            Edges.chart(x, text);
        }
        return x.of(0, 6);
    }

    // Promise 3 (Terms 1): "LOAD of a TELLER (may be below 0): TELLER: SUM."
    private static void loadOfATeller() {
        Edges.due("no WEIGHT", load(0, 9, 0, ""), 0);
        Edges.due("WEIGHT 20", load(0, 9, 20, ""), 20);
        Edges.due("one below 0", load(0, 9, 20, "sweet 21 p=0"), -1);
        Edges.due("far below 0", load(0, 9, 0, "sweet 99 p=0;sweet 99 p=0"), -198);
    }

    // Promise 3 (Terms 1): "SUM of a TELLER: WEIGHT, and the n of all sour whose E holds,"
    private static void sourIsMore() {
        Edges.due("sour 0", load(0, 0, 7, "sour 0 p=0"), 7);
        Edges.due("sour 99", load(0, 0, 7, "sour 99 p=0"), 106);
        Edges.due("one that holds, one that doesn't", load(0, 0, 7, "sour 3 p=0;sour 5 p=1"), 10);
        Edges.due("nine", load(0, 0, 7, "sour 9 p=0" + ";sour 9 p<1".repeat(8)), 88);
    }

    // Promise 3 (Terms 1): "less those of all sweet, together (may be below 0)."
    private static void sweetIsLess() {
        Edges.due("sweet 0", load(0, 0, 7, "sweet 0 p=0"), 7);
        Edges.due("to 0", load(0, 0, 7, "sweet 7 p=0"), 0);
        Edges.due("below 0", load(0, 0, 7, "sweet 8 p=0"), -1);
        Edges.due("one that doesn't hold", load(0, 0, 7, "sweet 8 !p=0"), 7);
        Edges.due("both", load(0, 0, 7, "sweet 50 p=0;sour 49 p=0"), 6);
    }

    // Promise 3 (Terms 1): "BOSUN: SUM and v."
    private static void loadOfABosun() {
        Edges.due("v 0", load(1, 0, 20, ""), 20);
        Edges.due("v 9", load(1, 9, 20, ""), 29);
        Edges.due("SUM below 0", load(1, 9, 0, "sweet 10 p=0"), -1);
    }

    // Promise 3 (Terms 1): "BRIDE: the half (cut toward 0) of SUM."
    private static void loadOfABride() {
        int[][] halves = {{0, 0}, {1, 0}, {2, 1}, {3, 1}, {19, 9}, {20, 10}};
        for (int[] h : halves) {
            Edges.due("half of " + h[0], load(2, 9, h[0], ""), h[1]);
            Edges.due("half of -" + h[0], load(2, 9, 0, "sweet " + h[0] + " p=0"), -h[1]);
        }
    }

    // Promise 3 (Terms 1): "TWIN: SUM; 5 more, if another one of KIND TWIN or TOLD is WITHIN."
    private static void loadOfATwin() {
        for (int kind : new int[] {3, 6}) {
            AmberGrains alone = Edges.told(9, 8, kind);
            Edges.due("by itself", alone.of(0, 6), 8);
            for (int other = 0; other <= 6; other++) {
                AmberGrains x = Edges.tellers(9, 8, kind, other);
                Edges.due("KIND " + kind + ", one SILENT", x.of(0, 6), 8);
                x.tell(1);
                long more = other == 3 || other == 6 ? 5 : 0;
                Edges.due("KIND " + kind + ", KIND " + other + " WITHIN", x.of(0, 6), 8 + more);
                x.tell(0);
                Edges.due("both WITHIN", x.of(0, 6), 8 + more);
                for (int state = 2; state <= 4; state++) {
                    x.put(1, 0, state);
                    Edges.due("the other in STATE " + state, x.of(0, 6), 8);
                }
            }
        }
        for (int other = 0; other < 6; other++) {
            AmberGrains x = Edges.tellers(9, 8, 3, 6, 3, 6, 3, 6);
            x.tell(other);
            for (int p = 0; p < 6; p++) {
                Edges.due("of " + p + " by " + other, x.of(p, 6), p == other ? 8 : 13);
            }
        }
        AmberGrains three = Edges.told(9, 8, 3, 6, 3);
        Edges.due("by two of them: 5 once", three.of(0, 6), 13);
        Edges.due("the last one", three.of(2, 6), 13);
        Edges.due("a TELLER by two of them: nothing", Edges.told(9, 8, 0, 3, 6).of(0, 6), 8);
    }

    // Promise 3 (Terms 1): "CAPTAIN: as BOSUN; 0, if AGE is less than v."
    private static void loadOfACaptain() {
        for (int v : new int[] {0, 1, 9}) {
            AmberGrains x = Edges.told(v, 6, 4);
            if (v > 0) {
                x.pass(v - 1);
                Edges.due("AGE v - 1", x.of(0, 6), 0);
                x.pass(1);
            }
            Edges.due("AGE v " + v, x.of(0, 6), 6 + v);
            x.pass(1);
            Edges.due("AGE v + 1", x.of(0, 6), 6 + v);
        }
        Edges.due("0 even if SUM is below 0", load(4, 1, 0, "sweet 9 p=0"), 0);
        Edges.due("SUM and v below 0", load(4, 0, 0, "sweet 9 p=0"), -9);
    }

    // Promise 3 (Terms 1): "CHILD: as BRIDE, and AGE (9 at most)."
    private static void loadOfAChild() {
        AmberGrains x = Edges.told(9, 7, 5);
        int[][] ages = {{0, 0}, {1, 1}, {8, 8}, {9, 9}, {10, 9}, {11, 9}, {19, 9}, {20, 9}};
        int day = 0;
        for (int[] age : ages) {
            x.pass(age[0] - day);
            day = age[0];
            Edges.due("AGE " + age[0], x.of(0, 6), 3 + age[1]);
        }
        Edges.due("SUM -3", load(5, 9, 0, "sweet 3 p=0"), -1);
    }

    // Promise 3 (Terms 1): "TOLD: as TWIN, and its ROW (four numbers 0 .. 9; 0 at first) at DAY modulo 4 more."
    private static void loadOfOneTold() {
        AmberGrains x = Edges.told(9, 2, 6);
        for (int part = 0; part < 4; part++) {
            x.row(0, part, 9 - 3 * part);
        }
        int[] due = {11, 8, 5, 2, 11, 8, 5, 2, 11};
        for (int day = 0; day < due.length; day++) {
            Edges.due("DAY " + day, x.of(0, 6), due[day]);
            x.pass(1);
        }
        Edges.due("below 0", load(6, 9, 0, "sweet 1 p=0"), -1);
    }

    // ---- promise 4

    // Promise 4: "A TELLER is TOLD: how many are WITHIN then."
    private static void howManyAreWithin() {
        AmberGrains x = Edges.tellers(0, 1, 0, 1, 2, 3, 4, 5);
        int[] order = {5, 0, 3, 1, 4, 2};
        for (int k = 0; k < 6; k++) {
            Edges.due("tell(" + order[k] + ")", x.tell(order[k]), k + 1);
        }
        AmberGrains y = Edges.told(0, 1, 0, 0, 0);
        y.put(0, 0, 2);
        y.put(1, 0, 4);
        y.teller(0, 0, 0);
        Edges.due("those who are WITHIN no more aren't", y.tell(3), 2);
    }

    // Promise 4 (Terms 1): "To TELL one that is SILENT: it is WITHIN, AGE 0."
    private static void oneToldIsWithin() {
        AmberGrains x = Edges.tellers(0, 1, 0);
        x.pass(5);
        x.tell(0);
        Edges.due("STATE", x.of(0, 3), 1);
        Edges.due("AGE", x.of(0, 4), 0);
        Edges.due("PLACE", x.of(0, 5), 0);
    }

    // Promise 4: "NONE;"
    private static void tellNoSuchOne() {
        for (int p : Edges.outside(0, 4)) {
            Edges.changesNothing(Edges.BUSY, -1, "tell(" + p + ")", x -> x.tell(p));
        }
        for (int p : Edges.outside(0, 5)) {
            Edges.changesNothing(Edges.FILLED, -1, "tell(" + p + ")", x -> x.tell(p));
        }
        Edges.due("tell(0) without TELLERS", new AmberGrains().tell(0), -1);
    }

    // Promise 4: "STATE: it is not SILENT."
    private static void tellOneThatIsNotSilent() {
        Edges.changesNothing(Edges.BUSY, -3, "tell(0), WITHIN", x -> x.tell(0));
        Edges.changesNothing(Edges.BUSY, -3, "tell(3), ADRIFT", x -> x.tell(3));
        Edges.changesNothing(Edges.BUSY, -3, "tell(4), FOUND", x -> x.tell(4));
        AmberGrains x = Edges.tellers(0, 1, 0);
        x.put(0, 4, 3);
        Edges.due("tell(0), ASHORE", x.tell(0), -3);
        Edges.due("it is ASHORE still", x.of(0, 3), 3);
    }

    // ---- promise 5

    // Promise 5: "WEIGHT of a TELLER becomes n (0 .. 20): what it was."
    private static void weighAtBothEnds() {
        AmberGrains x = Edges.tellers(0, 7, 0, 0);
        Edges.due("weigh(0, 0)", x.weigh(0, 0), 7);
        Edges.due("weigh(0, 20)", x.weigh(0, 20), 0);
        Edges.due("weigh(0, 20) again", x.weigh(0, 20), 20);
        Edges.due("WEIGHT", x.of(0, 2), 20);
        Edges.due("that of the other", x.of(1, 2), 7);
    }

    // Promise 5: "NONE;"
    private static void weighNoSuchOne() {
        for (int p : Edges.outside(0, 4)) {
            Edges.changesNothing(Edges.BUSY, -1, "weigh(" + p + ", 3)", x -> x.weigh(p, 3));
            Edges.due("NONE ahead of BAD", Edges.busy().weigh(p, 21), -1);
            Edges.due("NONE ahead of BAD", Edges.busy().weigh(p, -1), -1);
        }
    }

    // Promise 5: "BAD."
    private static void weighBadly() {
        for (int n : Edges.outside(0, 20)) {
            Edges.changesNothing(Edges.BUSY, -2, "weigh(0, " + n + ")", x -> x.weigh(0, n));
        }
    }

    // ---- promise 6

    // Promise 6: "A TELLER is at a PLACE in a STATE 2 .. 4: what its STATE was."
    private static void putAtBothEnds() {
        AmberGrains x = Edges.tellers(0, 1, 0, 0);
        x.tell(1);
        Edges.due("it was SILENT", x.put(0, 0, 2), 0);
        Edges.due("it was WITHIN", x.put(1, 11, 4), 1);
        Edges.due("it was ADRIFT", x.put(0, 11, 3), 2);
        Edges.due("it was ASHORE", x.put(0, 0, 4), 3);
        Edges.due("it was FOUND", x.put(0, 11, 2), 4);
        Edges.due("PLACE", x.of(0, 5), 11);
        Edges.due("STATE", x.of(0, 3), 2);
        Edges.due("PLACE of the other", x.of(1, 5), 11);
    }

    // Promise 6: "NONE: teller,"
    private static void putNoSuchOne() {
        for (int p : Edges.outside(0, 4)) {
            Edges.changesNothing(Edges.BUSY, -1, "put(" + p + ", 1, 3)", x -> x.put(p, 1, 3));
        }
    }

    // Promise 6: "place;"
    private static void putAtNoSuchPlace() {
        for (int place : Edges.outside(0, 11)) {
            Edges.changesNothing(Edges.BUSY, -1, "put(0, " + place + ", 3)", x -> x.put(0, place, 3));
        }
    }

    // Promise 6: "BAD: state."
    private static void putInAStateBelowOrAbove() {
        for (int state : new int[] {Edges.MIN, -1, 0, 1, 5, Edges.MAX}) {
            Edges.changesNothing(Edges.BUSY, -2, "put(0, 1, " + state + ")", x -> x.put(0, 1, state));
        }
    }

    // Promise 6: "NONE: teller, place; BAD: state."
    private static void putRefusesInOrder() {
        AmberGrains x = Edges.tellers(0, 1, 0, 0);
        for (int p : Edges.around(0, 1)) {
            for (int place : Edges.around(0, 11)) {
                for (int state : Edges.around(2, 4)) {
                    boolean there = Edges.in(p, 0, 1) && Edges.in(place, 0, 11);
                    long due = !there ? -1 : Edges.in(state, 2, 4) ? x.of(p, 3) : -2;
                    Edges.due("put(" + p + ", " + place + ", " + state + ")", x.put(p, place, state), due);
                }
            }
        }
    }

    // ---- promise 7

    // Promise 7: "What 0 SHORE (0 .. 4095), 1 FINDER (0 .. 11), 2 .. 5 the first, .. the fourth of CURRENTS (0 .. 9)"
    // Promise 7: "becomes n: what it was."
    private static void seaAtBothEnds() {
        AmberGrains x = new AmberGrains();
        int[] first = {273, 0, 1, 1, 1, 1};
        int[] most = {4095, 11, 9, 9, 9, 9};
        int[] told = {2, 3, 10, 11, 12, 13};
        for (int what = 0; what <= 5; what++) {
            Edges.due("sea(" + what + ", 0)", x.sea(what, 0), first[what]);
            Edges.due("told", x.told(told[what]), 0);
            Edges.due("sea(" + what + ", most)", x.sea(what, most[what]), 0);
            Edges.due("told", x.told(told[what]), most[what]);
        }
        for (int what = 0; what <= 5; what++) {
            Edges.due("each by itself", x.told(told[what]), most[what]);
        }
    }

    // Promise 7: "NONE: what;"
    private static void seaOfNoSuchWhat() {
        for (int what : Edges.outside(0, 5)) {
            Edges.changesNothing(Edges.BUSY, -1, "sea(" + what + ", 3)", x -> x.sea(what, 3));
            Edges.due("NONE ahead of BAD", Edges.busy().sea(what, -1), -1);
            Edges.due("NONE ahead of BAD", Edges.busy().sea(what, 4096), -1);
        }
    }

    // Promise 7: "BAD."
    private static void seaBadly() {
        int[] most = {4095, 11, 9, 9, 9, 9};
        for (int w = 0; w <= 5; w++) {
            int what = w;
            for (int n : Edges.outside(0, most[what])) {
                Edges.changesNothing(Edges.BUSY, -2, "sea(" + what + ", " + n + ")", x -> x.sea(what, n));
            }
        }
    }

    // ---- promise 8

    // Promise 8: "The ROW of a TOLD one becomes n (0 .. 9) for DAYS modulo 4 being part: what it was."
    private static void rowAtBothEnds() {
        AmberGrains x = Edges.tellers(0, 1, 6, 6);
        for (int part = 0; part <= 3; part++) {
            Edges.due("row(0, " + part + ", 9)", x.row(0, part, 9), 0);
        }
        for (int part = 0; part <= 3; part++) {
            Edges.due("row(0, " + part + ", 0)", x.row(0, part, 0), 9);
            Edges.due("row(1, " + part + ", 0): another's", x.row(1, part, 0), 0);
        }
    }

    // Promise 8: "for DAYS modulo 4 being part"
    private static void rowOfEachDay() {
        for (int part = 0; part <= 3; part++) {
            AmberGrains x = Edges.tellers(0, 1, 6);
            x.row(0, part, 9);
            for (int day = 0; day <= 8; day++) {
                Edges.due("part " + part + " on DAY " + day, x.of(0, 6), day % 4 == part ? 10 : 1);
                x.pass(1);
            }
        }
    }

    // Promise 8: "NONE: teller,"
    private static void rowOfNoSuchOne() {
        for (int p : Edges.outside(0, 4)) {
            Edges.changesNothing(Edges.BUSY, -1, "row(" + p + ", 0, 1)", x -> x.row(p, 0, 1));
        }
    }

    // Promise 8: "part;"
    private static void rowOfNoSuchPart() {
        for (int part : Edges.outside(0, 3)) {
            Edges.changesNothing(Edges.BUSY, -1, "row(0, " + part + ", 1)", x -> x.row(0, part, 1));
        }
    }

    // Promise 8: "BAD;"
    private static void rowBadly() {
        for (int n : Edges.outside(0, 9)) {
            Edges.changesNothing(Edges.BUSY, -2, "row(0, 0, " + n + ")", x -> x.row(0, 0, n));
        }
    }

    // Promise 8: "STATE: another KIND."
    private static void rowOfAnotherKind() {
        for (int p = 1; p <= 4; p++) {
            int other = p;
            Edges.changesNothing(Edges.BUSY, -3, "row(" + p + ", 0, 1)", x -> x.row(other, 0, 1));
        }
        for (int kind = 0; kind < 6; kind++) {
            AmberGrains x = Edges.tellers(0, 4, kind);
            Edges.due("KIND " + kind, x.row(0, 0, 1), -3);
        }
    }

    // Promise 8: "NONE: teller, part; BAD; STATE: another KIND."
    private static void rowRefusesInOrder() {
        for (int kind = 5; kind <= 6; kind++) {
            AmberGrains x = Edges.tellers(0, 1, kind);
            for (int p : Edges.around(0, 0)) {
                for (int part : Edges.around(0, 3)) {
                    for (int n : Edges.around(0, 9)) {
                        boolean there = p == 0 && Edges.in(part, 0, 3);
                        String call = "KIND " + kind + ": row(" + p + ", " + part + ", " + n + ")";
                        long got = x.row(p, part, n);
                        boolean good = there && Edges.in(n, 0, 9) && kind == 6;
                        Edges.due(call, good ? 0 : got, good ? 0 : !there ? -1 : !Edges.in(n, 0, 9) ? -2 : -3);
                    }
                }
            }
        }
    }

    // ---- promise 11

    // Promise 11: "What 0 DAY, 1 ROOM, 2 SHORE (bits), 3 FINDER,"
    private static void toldOfTheSea() {
        AmberGrains x = new AmberGrains();
        Edges.chart(x, "room 0");
        Edges.due("ROOM 0", x.told(1), 0);
        Edges.chart(x, "room 99");
        Edges.due("ROOM 99", x.told(1), 99);
        x.sea(0, 4095);
        x.sea(1, 11);
        Edges.due("SHORE", x.told(2), 4095);
        Edges.due("FINDER", x.told(3), 11);
        x.pass(1);
        Edges.due("DAY", x.told(0), 1);
        Edges.due("behind 11 is 0", x.told(3), 0);
    }

    // Promise 11: "4 how many are FOUND, 5 which are WITHIN (bits),"
    private static void toldOfNoneAndOfAll() {
        AmberGrains x = Edges.tellers(0, 0, 0, 1, 2, 3, 4, 5);
        Edges.due("none FOUND", x.told(4), 0);
        Edges.due("none WITHIN", x.told(5), 0);
        for (int p = 0; p < 6; p++) {
            x.tell(p);
            Edges.due("WITHIN", x.told(5), (1 << p + 1) - 1);
        }
        for (int p = 0; p < 6; p++) {
            x.put(p, 0, 2 + p % 2);
            Edges.due("neither ADRIFT nor ASHORE is FOUND", x.told(4), p);
            x.put(p, 0, 4);
            Edges.due("FOUND", x.told(4), p + 1);
            Edges.due("WITHIN", x.told(5), 63 & ~((1 << p + 1) - 1));
        }
    }

    // Promise 11: "6 LOADS of these, together,"
    private static void toldOfLoads() {
        AmberGrains x = Edges.tellers(0, 20, 0, 1, 0);
        Edges.due("of none", x.told(6), 0);
        x.tell(0);
        x.tell(1);
        Edges.due("of two, not of the one SILENT", x.told(6), 40);
        x.put(1, 0, 2);
        Edges.due("not of one ADRIFT", x.told(6), 20);
        Edges.chart(x, "sweet 21 p=0");
        Edges.due("-1 is no NONE", x.told(6), -1);
    }

    // Promise 11: "10 and k the k-th of CURRENTS (0 .. 3)."
    private static void toldOfCurrents() {
        AmberGrains x = new AmberGrains();
        for (int k = 0; k <= 3; k++) {
            x.sea(2 + k, 3 * k);
        }
        for (int k = 0; k <= 3; k++) {
            Edges.due("told(1" + k + ")", x.told(10 + k), 3 * k);
        }
        Edges.due("k -1", x.told(9), Edges.OUT);
        Edges.due("k 4", x.told(14), Edges.OUT);
    }

    // Promise 11: "-10001: NONE."
    private static void toldOfNoSuchWhat() {
        for (int what : new int[] {Edges.MIN, -2, -1, 7, 8, 9, 14, 15, Edges.MAX}) {
            Edges.changesNothing(Edges.BUSY, Edges.OUT, "told(" + what + ")", x -> x.told(what));
        }
    }

    // Promise 11 (Answers): "what is asked changes nothing."
    private static void toldChangesNothing() {
        for (int what = 0; what <= 13; what++) {
            int asked = what;
            Edges.asks(Edges.BUSY, "told(" + what + ")", x -> x.told(asked));
        }
    }
}
