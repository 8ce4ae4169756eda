import java.util.Arrays;

/** Edges of judging, of acts, of counts and of TAPES: promises 24 and 27 to 34. */
public final class TapesEdgesTest {
    private static final int BYTES = 0, SHORTS = 1, INTS = 2, LONGS = 3, BOOLEANS = 4;

    public static void main(String[] args) {
        Edges.run(TapesEdgesTest.class);
    }

    /** A new object whose first TAPE is a row of a sort with these items. */
    private static AmberGrains row(int sort, long... items) {
        AmberGrains x = new AmberGrains();
        x.tape(0, sort, items.length);
        for (int i = 0; i < items.length; i++) {
            x.item(0, i, items[i]);
        }
        return x;
    }

    private static void rowIs(AmberGrains x, int tape, long... due) {
        for (int i = 0; i < due.length; i++) {
            Edges.due("read(" + tape + ", " + i + ")", x.read(tape, i), due[i]);
        }
        Edges.due("read(" + tape + ", " + due.length + ")", x.read(tape, due.length), Edges.NO);
    }

    // ---- promise 24

    /** Six that are 8, 7, 6, 5, 4 and 0 DAYS old, and their AGES told from place 2 on. */
    private static AmberGrains sixAges() {
        AmberGrains x = row(INTS, 99, 99, 8, 7, 6, 5, 4, 0);
        for (int p = 0; p < 6; p++) {
            x.teller(0, 0, 0);
        }
        for (int p = 0; p < 5; p++) {
            x.tell(p);
            x.pass(p == 4 ? 4 : 1);
        }
        return x;
    }

    // Promise 24 (Terms 3): "AGES told by a row of ints, from a place on, TELLER by TELLER, are JUDGED:"
    // Promise 24 (Terms 3): "the first that is otherwise;"
    // Promise 24: "JUDGED from place i of a TAPE on."
    private static void theFirstAgeThatIsOtherwise() {
        Edges.due("all are so", sixAges().judge(0, 2), -5);
        for (int p = 0; p < 6; p++) {
            AmberGrains x = sixAges();
            int age = x.of(p, 4);
            x.item(0, 2 + p, age + 1);
            Edges.due("1 more of " + p, x.judge(0, 2), p);
            x.item(0, 2 + p, age - 1);
            Edges.due("1 less of " + p, x.judge(0, 2), p);
            x.item(0, 7, 77);
            Edges.due("of " + p + " ahead of the last", x.judge(0, 2), p);
            Edges.due("from another place", x.judge(0, 1), 0);
        }
    }

    // Promise 24 (Terms 3): "-5: none, or there are no TELLERS;"
    private static void judgedWithoutTellers() {
        for (int i : new int[] {Edges.MIN, -1, 0, 1, 2, Edges.MAX}) {
            Edges.due("nothing is there, from " + i, new AmberGrains().judge(0, i), -5);
            Edges.due("a row of none, from " + i, row(INTS).judge(0, i), -5);
            Edges.due("a row of one, from " + i, row(INTS, 7).judge(0, i), -5);
        }
    }

    // Promise 24 (Terms 3): "100 and how many were looked at, if the row ends ahead of that"
    private static void theRowEnds() {
        for (int many = 0; many <= 5; many++) {
            AmberGrains x = sixAges();
            x.tape(1, INTS, many);
            x.shift(0, 2, 1, 0, many);
            Edges.due("a row of " + many, x.judge(1, 0), 100 + many);
        }
        AmberGrains x = sixAges();
        x.tape(1, INTS, 6);
        x.shift(0, 2, 1, 0, 6);
        Edges.due("a row of six", x.judge(1, 0), -5);
        x.item(1, 3, 99);
        Edges.due("otherwise ahead of the end", x.judge(1, 0), 3);
        AmberGrains zeros = Edges.tellers(0, 0, 0, 0, 0, 0, 0, 0);
        zeros.tape(5, INTS, 60);
        Edges.due("from 54: six are left", zeros.judge(5, 54), -5);
        for (int i = 55; i <= 60; i++) {
            Edges.due("from " + i, zeros.judge(5, i), 160 - i);
        }
        Edges.due("from behind the end", zeros.judge(5, 61), 100);
        Edges.due("from far behind", zeros.judge(5, Edges.MAX), 100);
    }

    // Promise 24 (Terms 3): "(or the place is below 0, or the TAPE holds nothing)."
    private static void aPlaceBelowNothingOrATapeOfNothing() {
        AmberGrains x = sixAges();
        Edges.due("from -1", x.judge(0, -1), 100);
        Edges.due("from far below", x.judge(0, Edges.MIN), 100);
        for (int i : new int[] {Edges.MIN, -1, 0, Edges.MAX}) {
            Edges.due("nothing is there, from " + i, x.judge(1, i), 100);
        }
    }

    // Promise 24: "NONE: tape;"
    private static void judgeByNoSuchTape() {
        for (int t : Edges.outside(0, 5)) {
            Edges.changesNothing(Edges.BUSY, -1, "judge(" + t + ", 0)", x -> x.judge(t, 0));
            Edges.due("without TELLERS", new AmberGrains().judge(t, 0), -1);
        }
    }

    // Promise 24: "CAST: it is no row of ints."
    private static void judgeByAnotherSort() {
        for (int s : new int[] {BYTES, SHORTS, LONGS, BOOLEANS}) {
            Edges.changesNothing(Edges.BUSY, -12, "judge(" + s + ", 0)", x -> x.judge(s, 0));
            Edges.due("a row of none", row(s).judge(0, 0), -12);
            Edges.due("from below 0", row(s, 1).judge(0, -1), -12);
            Edges.due("from behind its end", row(s, 1).judge(0, Edges.MAX), -12);
        }
    }

    // Promise 24 (Terms 1): "an AGE (0 .. 9999;"
    private static void judgeOfTheGreatestAge() {
        AmberGrains x = Edges.pass(Edges.told(0, 0, 0), 9999);
        x.tape(0, INTS, 1);
        x.item(0, 0, 9999);
        Edges.due("9999", x.judge(0, 0), -5);
        x.item(0, 0, 10000);
        Edges.due("10000", x.judge(0, 0), 0);
        x.item(0, 0, (1L << 32) + 9999);
        Edges.due("its lowest bits are 9999", x.judge(0, 0), -5);
    }

    // Promise 24 (Answers): "what is asked changes nothing."
    private static void judgeChangesNothing() {
        Edges.asks(Edges.BUSY, "judge(2, 0)", x -> x.judge(2, 0));
        Edges.asks(Edges.BUSY, "judge(5, 0)", x -> x.judge(5, 0));
    }

    // ---- promise 27

    /** The one of this number, KIND and v acts; the others are TELLERS. */
    private static void acts(int number, int kind, int v, int act, int x, int due) {
        AmberGrains g = new AmberGrains();
        for (int p = 0; p < number; p++) {
            g.teller(0, 0, 0);
        }
        g.teller(kind, v, 0);
        Edges.due("KIND " + kind + ": act(" + number + ", " + act + ", " + x + ")", g.act(number, act, x), due);
    }

    // Promise 27 (Terms 2): "ACTS of one with x (wrapping): 0 sinks, 1 sighs, 2 tells; i its number."
    // Promise 27 (Terms 2): "BODIES: TELLER: 10 sinks: x + i. 11 sighs: sinks(x) - v. 12 tells: sighs(x) * 2."
    private static void bodiesOfATellerWrap() {
        acts(0, 0, 0, 0, Edges.MAX, Edges.MAX);
        acts(5, 0, 0, 0, Edges.MAX, Edges.MIN + 4);
        acts(0, 0, 9, 1, Edges.MIN, Edges.MAX - 8);
        acts(5, 0, 9, 1, Edges.MAX, Edges.MAX - 4);
        acts(0, 0, 0, 2, 1 << 30, Edges.MIN);
        acts(0, 0, 0, 2, Edges.MIN, 0);
        acts(0, 0, 9, 2, 9, 0);
        acts(0, 0, 9, 2, 8, -2);
    }

    // Promise 27 (Terms 2): "BOSUN: 20 sighs: super.sighs(x) ^ 6. BRIDE: 30 sinks: super.sinks(x * 3)."
    private static void bodiesOfABosunAndABrideWrap() {
        acts(0, 1, 0, 1, Edges.MIN, Edges.MIN + 6);
        acts(0, 1, 9, 1, Edges.MIN, Edges.MAX - 8 ^ 6);
        acts(0, 1, 0, 0, 6, 6);
        acts(0, 2, 0, 0, Edges.MAX, Edges.MAX - 2);
        acts(0, 2, 0, 0, Edges.MIN, Edges.MIN);
        acts(5, 2, 0, 0, 0, 5);
        acts(0, 2, 9, 1, 3, 0);
    }

    // Promise 27 (Terms 2): "TWIN: 40 tells: super.tells(x) + sighs(1)."
    private static void bodiesOfATwinWrap() {
        acts(0, 3, 0, 2, 1 << 30, Edges.MIN + 1);
        acts(0, 3, 2, 2, (1 << 30) + 2, Edges.MAX);
        acts(5, 3, 0, 2, 0, 16);
    }

    // Promise 27 (Terms 2): "CAPTAIN: 50 sinks: -super.sinks(x). 51 sighs: super.sighs(x + 1)."
    private static void bodiesOfACaptainWrap() {
        acts(0, 4, 0, 0, Edges.MIN, Edges.MIN);
        acts(1, 4, 0, 0, Edges.MAX, Edges.MIN);
        acts(5, 4, 9, 0, 0, -5);
        acts(0, 4, 0, 1, Edges.MAX, Edges.MIN + 6);
        acts(0, 4, 0, 1, -1, 6);
    }

    // Promise 27 (Terms 2): "CHILD: 60 tells: super.tells(x - i)."
    private static void bodiesOfAChildWrap() {
        acts(5, 5, 0, 2, Edges.MIN, -20);
        acts(5, 5, 0, 2, 5, 10);
        acts(0, 5, 9, 2, 3, 0);
    }

    // Promise 27 (Terms 2): "TOLD: 70 sighs: super.sighs(x) + super.sinks(2). 71 sinks: super.sinks(x) ^ v."
    private static void bodiesOfOneToldWrap() {
        acts(0, 6, 0, 1, Edges.MAX, Edges.MIN + 1);
        acts(1, 6, 9, 0, Edges.MAX, Edges.MIN + 9);
        acts(0, 6, 9, 0, 9, 0);
        acts(5, 6, 9, 0, -5, 9);
    }

    private static void refusedAct(int p, int act) {
        Edges.changesNothing(Edges.BUSY, 0, "act(" + p + ", " + act + ", 5), and the one that was the latest", x -> {
            long answer = x.act(p, act, 5);
            Edges.due("no body ran", x.count(6), 0);
            Edges.due("no TRACE", x.trace(0), -1);
            x.act(0, 2, 5);
            return answer;
        });
    }

    // Promise 27: "An ACT (0 sinks, 1 sighs, 2 tells) of a TELLER with x. 0, and no TRACE then: no such one, act."
    private static void noSuchOneAndNoSuchAct() {
        for (int p : Edges.outside(0, 4)) {
            refusedAct(p, 0);
        }
        for (int act : Edges.outside(0, 2)) {
            refusedAct(0, act);
            refusedAct(-1, act);
        }
        Edges.due("without TELLERS", new AmberGrains().act(0, 0, 9), 0);
    }

    // Promise 27 (Answers): "what is asked changes nothing."
    private static void actChangesNothingButTheTrace() {
        Edges.asks(Edges.BUSY, "act(0, 2, 5) again", x -> x.act(0, 2, 5));
        Edges.changesNothing(Edges.BUSY, 4, "act(1, 1, ..), and the one that was the latest", x -> {
            x.act(4, 1, Edges.MAX);
            x.act(3, 2, Edges.MIN);
            x.act(0, 2, 5);
            return 4;
        });
    }

    // ---- promise 28

    private static final int[][][] RAN = {
        {{10}, {11, 10}, {12, 11, 10}},
        {{10}, {20, 11, 10}, {12, 20, 11, 10}},
        {{30, 10}, {11, 30, 10}, {12, 11, 30, 10}},
        {{10}, {11, 10}, {40, 12, 11, 10, 11, 10}},
        {{50, 10}, {51, 20, 11, 50, 10}, {12, 51, 20, 11, 50, 10}},
        {{30, 10}, {11, 30, 10}, {60, 12, 11, 30, 10}},
        {{71, 10}, {70, 11, 71, 10, 10}, {40, 12, 70, 11, 71, 10, 10, 70, 11, 71, 10, 10}},
    };

    // Promise 28: "THE TRACE's i-th body."
    // Promise 28 (Terms 2): "the numbers of the bodies that ran in the latest act(), as they began;"
    private static void bodiesOfEachActOfEachKind() {
        for (int kind = 0; kind <= 6; kind++) {
            for (int act = 0; act <= 2; act++) {
                AmberGrains x = Edges.tellers(3, 0, kind);
                x.act(0, act, 4);
                int[] ran = RAN[kind][act];
                Edges.due("KIND " + kind + ", act " + act + ": count(6)", x.count(6), ran.length);
                for (int i = 0; i < ran.length; i++) {
                    Edges.due("KIND " + kind + ", act " + act + ": trace(" + i + ")", x.trace(i), ran[i]);
                }
                Edges.due("behind the last", x.trace(ran.length), -1);
            }
        }
    }

    private static void ran(int kind, int act, int... bodies) {
        AmberGrains x = Edges.tellers(3, 0, kind);
        x.act(0, act, 4);
        for (int i = 0; i < bodies.length; i++) {
            Edges.due("KIND " + kind + ", act " + act + ": trace(" + i + ")", x.trace(i), bodies[i]);
        }
    }

    // Promise 28 (Terms 2): "sinks(..) and so on: the body of its KIND, or, if that has none, of the next KIND above"
    // Promise 28 (Terms 2): "that has one;"
    private static void theBodyOfItsKindOrOfTheNextAbove() {
        // Of its own KIND, of the one above, of the one above that.
        ran(4, 0, 50);
        ran(5, 0, 30);
        ran(6, 2, 40);
        ran(4, 2, 12);
        ran(5, 1, 11);
        // A body of TELLER asks anew from the KIND of the one that acts.
        ran(4, 2, 12, 51);
        ran(6, 1, 70, 11, 71);
    }

    // Promise 28 (Terms 2): "super.sinks(..): so from the KIND above the body's on;"
    private static void superIsAboveTheBody() {
        // From BOSUN on, that has none; from BOSUN on, that has one.
        ran(4, 0, 50, 10);
        ran(4, 1, 51, 20);
        // The body 30 is of BRIDE, though the one that acts is a CHILD: TELLER's is next.
        ran(5, 0, 30, 10);
        ran(5, 2, 60, 12);
        ran(6, 0, 71, 10);
    }

    // Promise 28 (Terms 2): "all that stands in a body is done from the left on. THE TRACE:"
    private static void fromTheLeftOn() {
        // super.tells(x) ahead of sighs(1): 12 and what it brings, then 11.
        ran(3, 2, 40, 12, 11, 10, 11, 10);
        // super.sighs(x) with its sinks ahead of super.sinks(2).
        ran(6, 1, 70, 11, 71, 10, 10);
    }

    // Promise 28 (Terms 2): "in the latest act()"
    private static void aShorterActBehindALongerOne() {
        AmberGrains x = Edges.tellers(3, 0, 6, 0);
        x.act(0, 2, 4);
        Edges.due("the last of twelve", x.trace(11), 10);
        x.act(1, 1, 4);
        Edges.due("count(6)", x.count(6), 2);
        Edges.due("trace(0)", x.trace(0), 11);
        Edges.due("trace(1)", x.trace(1), 10);
        for (int i = 2; i <= 12; i++) {
            Edges.due("trace(" + i + ")", x.trace(i), -1);
        }
    }

    // Promise 28 (Terms 2): "the first 20 are kept."
    // Promise 28: "NONE."
    private static void noSuchBody() {
        for (int i : new int[] {Edges.MIN, -1, 12, 13, 19, 20, 21, Edges.MAX}) {
            Edges.changesNothing(Edges.BUSY, -1, "trace(" + i + ")", x -> x.trace(i));
        }
        Edges.due("none ran yet", new AmberGrains().trace(0), -1);
        Edges.asks(Edges.BUSY, "trace(0)", x -> x.trace(0));
    }

    // ---- promise 29

    // Promise 29: "A TELLER taken for one of KIND k (0 .. 6), or one under that: its KIND."
    // Promise 29: "CAST."
    private static void eachKindTakenForEach() {
        int[][] fits = {{0}, {0, 1}, {0, 2}, {0, 3}, {0, 1, 4}, {0, 2, 5}, {0, 3, 6}};
        for (int kind = 0; kind <= 6; kind++) {
            AmberGrains x = Edges.tellers(0, 0, 0, kind);
            for (int k = 0; k <= 6; k++) {
                int asked = k;
                boolean fit = Arrays.stream(fits[kind]).anyMatch(f -> f == asked);
                Edges.due("KIND " + kind + " taken for " + k, x.taken(1, k), fit ? kind : -12);
            }
        }
    }

    // Promise 29: "BAD: k;"
    private static void takenForNoSuchKind() {
        for (int k : Edges.outside(0, 6)) {
            Edges.changesNothing(Edges.BUSY, -2, "taken(0, " + k + ")", x -> x.taken(0, k));
        }
    }

    // Promise 29: "NOTHING: no such one;"
    private static void noSuchOneTaken() {
        for (int p : Edges.outside(0, 4)) {
            Edges.changesNothing(Edges.BUSY, -11, "taken(" + p + ", 0)", x -> x.taken(p, 0));
            Edges.changesNothing(Edges.BUSY, -11, "taken(" + p + ", 6)", x -> x.taken(p, 6));
        }
        Edges.due("without TELLERS", new AmberGrains().taken(0, 0), -11);
    }

    // Promise 29: "BAD: k; NOTHING: no such one; CAST."
    private static void takenRefusesInOrder() {
        for (int k : Edges.outside(0, 6)) {
            for (int p : Edges.outside(0, 4)) {
                Edges.due("BAD ahead of NOTHING", Edges.busy().taken(p, k), -2);
            }
        }
        Edges.asks(Edges.BUSY, "taken(0, 3)", x -> x.taken(0, 3));
        Edges.asks(Edges.BUSY, "taken(0, 1)", x -> x.taken(0, 1));
    }

    // ---- promise 30

    // Promise 30: "How many: 0 TELLERS, 1 SEAS, 2 SEEN, 3 of the PLAN, 4 of the BOOK, 5 bytes of THE TEXT,"
    private static void countsOfNothingAndOfAll() {
        AmberGrains none = new AmberGrains();
        AmberGrains full = Edges.filled();
        int[] most = {6, 6, 5, 10, 8, 6};
        for (int what = 0; what <= 5; what++) {
            Edges.due("count(" + what + ") of nothing", none.count(what), 0);
            Edges.due("count(" + what + ") of all", full.count(what), most[what]);
        }
        for (int n = 0; n < 100; n++) {
            none.feed('r');
        }
        Edges.due("a full TEXT", none.count(5), 100);
        none.chart();
        Edges.due("an empty one", none.count(5), 0);
    }

    // Promise 30: "6 bodies that ran in the latest act() (all, kept or not)."
    private static void countOfBodies() {
        AmberGrains x = Edges.tellers(3, 0, 6, 0);
        Edges.due("none yet", x.count(6), 0);
        x.act(0, 2, 1);
        Edges.due("the most", x.count(6), 12);
        x.act(1, 0, 1);
        Edges.due("one", x.count(6), 1);
        x.act(2, 0, 1);
        Edges.due("no such one: none", x.count(6), 0);
    }

    // Promise 30: "BAD."
    private static void countBadly() {
        for (int what : Edges.outside(0, 6)) {
            Edges.changesNothing(Edges.BUSY, -2, "count(" + what + ")", x -> x.count(what));
        }
        for (int what = 0; what <= 6; what++) {
            int asked = what;
            Edges.asks(Edges.BUSY, "count(" + what + ")", x -> x.count(asked));
        }
    }

    // ---- promise 31

    // Promise 31 (Terms 3): "TAPES 0 .. 5 hold nothing (at first),"
    private static void tapesHoldNothingAtFirst() {
        for (int t = 0; t <= 5; t++) {
            Edges.due("item(" + t + ", 0, 1)", new AmberGrains().item(t, 0, 1), -11);
            Edges.due("read(" + t + ", 0)", new AmberGrains().read(t, 0), Edges.NO);
        }
    }

    // Promise 31 (Terms 3): "or a row of 0 bytes, 1 shorts, 2 ints, 3 longs, 4 booleans (items 0, 1)."
    // Promise 31: "A TAPE becomes a row of n (0 .. 60) of a sort, all 0,"
    private static void rowsOfNoneOneAndSixty() {
        for (int t : new int[] {0, 5}) {
            for (int sort = 0; sort <= 4; sort++) {
                AmberGrains x = new AmberGrains();
                Edges.due("tape(" + t + ", " + sort + ", 60)", x.tape(t, sort, 60), 1);
                Edges.due("the last item", x.item(t, 59, 1), 1);
                Edges.due("behind it", x.item(t, 60, 1), -13);
                Edges.due("anew", x.tape(t, sort, 60), 1);
                for (int i = 0; i < 60; i++) {
                    Edges.due("all 0", x.read(t, i), 0);
                }
                x.item(t, 0, 1);
                Edges.due("a row of one", x.tape(t, sort, 1), 1);
                rowIs(x, t, 0);
                Edges.due("a row of none", x.tape(t, sort, 0), 1);
                rowIs(x, t);
                Edges.due("it holds a row, though of none", x.item(t, 0, 1), -13);
            }
        }
    }

    // Promise 31: "or holds nothing (sort -1: n does not matter): 1."
    private static void aTapeOfNothing() {
        for (int n : Edges.around(0, 60)) {
            AmberGrains x = row(BYTES, 1, 2, 3);
            Edges.due("tape(0, -1, " + n + ")", x.tape(0, -1, n), 1);
            Edges.due("nothing is there", x.item(0, 0, 1), -11);
            Edges.due("nothing to read", x.read(0, 0), Edges.NO);
            Edges.due("nothing to shift", x.shift(0, 0, 0, 0, 0), -11);
            x.teller(0, 0, 0);
            Edges.due("nothing to judge by", x.judge(0, 0), 100);
            Edges.due("again", x.tape(0, -1, n), 1);
            Edges.due("a row anew", x.tape(0, BYTES, 3), 1);
            rowIs(x, 0, 0, 0, 0);
        }
    }

    // Promise 31: "NONE: tape;"
    private static void tapeOfNoSuchNumber() {
        for (int t : Edges.outside(0, 5)) {
            Edges.changesNothing(Edges.BUSY, -1, "tape(" + t + ", 0, 3)", x -> x.tape(t, 0, 3));
            Edges.changesNothing(Edges.BUSY, -1, "tape(" + t + ", -1, 3)", x -> x.tape(t, -1, 3));
        }
    }

    // Promise 31: "BAD: sort,"
    private static void tapeOfNoSuchSort() {
        for (int sort : new int[] {Edges.MIN, -3, -2, 5, Edges.MAX}) {
            Edges.changesNothing(Edges.BUSY, -2, "tape(0, " + sort + ", 3)", x -> x.tape(0, sort, 3));
        }
    }

    // Promise 31: "n above 60;"
    private static void tapeTooLong() {
        for (int sort = 0; sort <= 4; sort++) {
            int asked = sort;
            Edges.changesNothing(Edges.BUSY, -2, "tape(0, " + sort + ", 61)", x -> x.tape(0, asked, 61));
            Edges.changesNothing(Edges.BUSY, -2, "tape(0, " + sort + ", MAX)", x -> x.tape(0, asked, Edges.MAX));
        }
    }

    // Promise 31 (Terms 3): "SIZE (-14): a size below 0."
    // Promise 31: "SIZE."
    private static void tapeOfASizeBelowNothing() {
        for (int sort = 0; sort <= 4; sort++) {
            int asked = sort;
            Edges.changesNothing(Edges.BUSY, -14, "tape(0, " + sort + ", -1)", x -> x.tape(0, asked, -1));
            Edges.changesNothing(Edges.BUSY, -14, "tape(0, " + sort + ", MIN)", x -> x.tape(0, asked, Edges.MIN));
        }
    }

    // Promise 31: "NONE: tape; BAD: sort, n above 60; SIZE."
    private static void tapeRefusesInOrder() {
        AmberGrains x = new AmberGrains();
        for (int t : Edges.around(0, 5)) {
            for (int sort : new int[] {Edges.MIN, -2, -1, 0, 4, 5, Edges.MAX}) {
                for (int n : Edges.around(0, 60)) {
                    boolean bad = !Edges.in(sort, -1, 4) || sort != -1 && n > 60;
                    long due = !Edges.in(t, 0, 5) ? -1 : bad ? -2 : sort != -1 && n < 0 ? -14 : 1;
                    Edges.due("tape(" + t + ", " + sort + ", " + n + ")", x.tape(t, sort, n), due);
                }
            }
        }
    }

    // ---- promise 32

    // Promise 32: "Item i of a TAPE becomes v (its lowest bits, as many as an item has;"
    private static void lowestBitsOfAnItem() {
        long[][] bytes = {{127, 127}, {128, -128}, {255, -1}, {256, 0}, {-128, -128}, {-129, 127}, {1L << 40 | 5, 5}};
        long[][] shorts = {{32767, 32767}, {32768, -32768}, {65535, -1}, {65536, 0}, {-32768, -32768},
            {-32769, 32767}};
        long[][] ints = {{Edges.MAX, Edges.MAX}, {1L << 31, Edges.MIN}, {(1L << 32) - 1, -1}, {1L << 32, 0},
            {Edges.MIN, Edges.MIN}, {Edges.MIN - 1L, Edges.MAX}};
        long[][] longs = {{Long.MAX_VALUE, Long.MAX_VALUE}, {Edges.NO, Edges.NO}, {-1, -1}, {1L << 32, 1L << 32}};
        long[][][] rows = {bytes, shorts, ints, longs};
        for (int sort = 0; sort < rows.length; sort++) {
            for (long[] item : rows[sort]) {
                AmberGrains x = row(sort, 0, 0, 0);
                Edges.due("item(0, 1, " + item[0] + ")", x.item(0, 1, item[0]), 1);
                rowIs(x, 0, 0, item[1], 0);
            }
        }
    }

    // Promise 32: "booleans: whether v is not 0): 1."
    private static void booleansAreNoughtOrOne() {
        for (long v : new long[] {1, 2, -1, 256, 65536, 1L << 32, Long.MAX_VALUE, Edges.NO}) {
            rowIs(row(BOOLEANS, v, 0), 0, 1, 0);
        }
        AmberGrains x = row(BOOLEANS, 1);
        x.item(0, 0, 0);
        rowIs(x, 0, 0);
    }

    // Promise 32: "NONE;"
    private static void itemOfNoSuchTape() {
        for (int t : Edges.outside(0, 5)) {
            Edges.changesNothing(Edges.BUSY, -1, "item(" + t + ", 0, 1)", x -> x.item(t, 0, 1));
        }
    }

    // Promise 32 (Terms 3): "The host's refusals: NOTHING (-11): nothing is there;"
    // Promise 32: "NOTHING;"
    private static void itemOfNothing() {
        for (int i : new int[] {Edges.MIN, -1, 0, 60, Edges.MAX}) {
            Edges.changesNothing(Edges.BUSY, -11, "item(5, " + i + ", 1)", x -> x.item(5, i, 1));
        }
    }

    // Promise 32 (Terms 3): "PLACE (-13): no such place;"
    // Promise 32: "PLACE."
    private static void itemAtNoSuchPlace() {
        for (int i : Edges.outside(0, 2)) {
            Edges.changesNothing(Edges.BUSY, -13, "item(3, " + i + ", 1)", x -> x.item(3, i, 1));
        }
        Edges.due("the first of none", row(INTS).item(0, 0, 1), -13);
        AmberGrains shorter = row(INTS, 1, 2, 3);
        shorter.tape(0, INTS, 2);
        Edges.due("the third of a row that has two now", shorter.item(0, 2, 1), -13);
        AmberGrains x = row(INTS, 1, 2, 3);
        x.item(0, 0, 8);
        x.item(0, 2, 9);
        rowIs(x, 0, 8, 2, 9);
    }

    // Promise 32: "NONE; NOTHING; PLACE."
    private static void itemRefusesInOrder() {
        AmberGrains x = row(INTS, 1, 2);
        for (int t : new int[] {-1, 0, 1, 6}) {
            for (int i : Edges.around(0, 1)) {
                long due = !Edges.in(t, 0, 5) ? -1 : t == 1 ? -11 : Edges.in(i, 0, 1) ? 1 : -13;
                Edges.due("item(" + t + ", " + i + ", 3)", x.item(t, i, 3), due);
            }
        }
    }

    // ---- promise 33

    // Promise 33: "Item i of a TAPE. NO: no such TAPE, nothing there, no such place."
    private static void noSuchItem() {
        for (int t : Edges.outside(0, 5)) {
            Edges.changesNothing(Edges.BUSY, Edges.NO, "read(" + t + ", 0)", x -> x.read(t, 0));
        }
        for (int i : new int[] {Edges.MIN, -1, 0, 1, Edges.MAX}) {
            Edges.changesNothing(Edges.BUSY, Edges.NO, "read(5, " + i + ")", x -> x.read(5, i));
        }
        for (int i : Edges.outside(0, 2)) {
            Edges.changesNothing(Edges.BUSY, Edges.NO, "read(3, " + i + ")", x -> x.read(3, i));
        }
        Edges.due("the first of none", row(LONGS).read(0, 0), Edges.NO);
        AmberGrains shorter = row(LONGS, 1, 2, 3);
        shorter.tape(0, LONGS, 2);
        Edges.due("the third of a row that has two now", shorter.read(0, 2), Edges.NO);
    }

    // Promise 33: "Item i of a TAPE."
    private static void theFirstItemAndTheLast() {
        AmberGrains x = new AmberGrains();
        for (int t = 0; t <= 5; t++) {
            x.tape(t, LONGS, 60);
            x.item(t, 0, t + 7);
            x.item(t, 59, -t);
        }
        for (int t = 0; t <= 5; t++) {
            Edges.due("read(" + t + ", 0)", x.read(t, 0), t + 7);
            Edges.due("read(" + t + ", 59)", x.read(t, 59), -t);
        }
        Edges.asks(Edges.BUSY, "read(3, 1)", y -> y.read(3, 1));
    }

    // ---- promise 34

    // Promise 34: "n items of a TAPE from i on come to another one (or the same) from j on,"
    // Promise 34: "as they all were before: n."
    private static void shiftWithinOne() {
        long[][] due = {{1, 1, 2, 3, 4}, {2, 3, 4, 5, 5}, {1, 2, 3, 4, 5}, {1, 2, 3, 1, 2}, {4, 5, 3, 4, 5}};
        int[][] calls = {{0, 1, 4}, {1, 0, 4}, {0, 0, 5}, {0, 3, 2}, {3, 0, 2}};
        for (int k = 0; k < calls.length; k++) {
            AmberGrains x = row(SHORTS, 1, 2, 3, 4, 5);
            int n = calls[k][2];
            Edges.due("shift " + k, x.shift(0, calls[k][0], 0, calls[k][1], n), n);
            rowIs(x, 0, due[k]);
        }
    }

    // Promise 34: "n items of a TAPE from i on come to another one"
    private static void shiftOfEachSort() {
        for (int sort = 0; sort <= 4; sort++) {
            AmberGrains x = row(sort, 1, 0, 1);
            x.tape(5, sort, 4);
            Edges.due("all, to the end", x.shift(0, 0, 5, 1, 3), 3);
            rowIs(x, 5, 0, 1, 0, 1);
            rowIs(x, 0, 1, 0, 1);
            Edges.due("back, without the first", x.shift(5, 2, 0, 0, 2), 2);
            rowIs(x, 0, 0, 1, 1);
        }
        AmberGrains most = new AmberGrains();
        most.tape(0, BYTES, 60);
        most.tape(1, BYTES, 60);
        most.item(0, 0, 4);
        most.item(0, 59, 5);
        Edges.due("sixty", most.shift(0, 0, 1, 0, 60), 60);
        Edges.due("the first", most.read(1, 0), 4);
        Edges.due("the last", most.read(1, 59), 5);
    }

    // Promise 34: "from j on, as they all were before: n."
    private static void shiftOfNone() {
        AmberGrains x = row(INTS, 1, 2, 3);
        x.tape(1, INTS, 2);
        x.tape(2, INTS, 0);
        Edges.due("from the end to the end", x.shift(0, 3, 1, 2, 0), 0);
        Edges.due("to a row of none", x.shift(0, 0, 2, 0, 0), 0);
        Edges.due("from a row of none", x.shift(2, 0, 0, 3, 0), 0);
        rowIs(x, 0, 1, 2, 3);
        rowIs(x, 1, 0, 0);
        Edges.changesNothing(Edges.BUSY, 0, "shift(0, 3, 0, 3, 0)", y -> y.shift(0, 3, 0, 3, 0));
    }

    // Promise 34: "NONE: tapes;"
    private static void shiftOfNoSuchTapes() {
        for (int t : Edges.outside(0, 5)) {
            Edges.changesNothing(Edges.BUSY, -1, "shift(" + t + ", 0, 0, 0, 1)", x -> x.shift(t, 0, 0, 0, 1));
            Edges.changesNothing(Edges.BUSY, -1, "shift(0, 0, " + t + ", 0, 1)", x -> x.shift(0, 0, t, 0, 1));
            Edges.due("NONE ahead of NOTHING", Edges.busy().shift(5, 0, t, 0, 1), -1);
            Edges.due("NONE ahead of NOTHING", Edges.busy().shift(t, 0, 5, 0, 1), -1);
            Edges.due("NONE ahead of PLACE", Edges.busy().shift(0, -1, t, -1, -1), -1);
        }
    }

    // Promise 34: "NOTHING;"
    private static void shiftOfNothing() {
        Edges.changesNothing(Edges.BUSY, -11, "shift(0, 0, 5, 0, 1)", x -> x.shift(0, 0, 5, 0, 1));
        Edges.changesNothing(Edges.BUSY, -11, "shift(5, 0, 0, 0, 1)", x -> x.shift(5, 0, 0, 0, 1));
        Edges.changesNothing(Edges.BUSY, -11, "shift(5, 0, 5, 0, 0)", x -> x.shift(5, 0, 5, 0, 0));
        Edges.due("NOTHING ahead of PLACE", Edges.busy().shift(5, -1, 0, -1, -1), -11);
        Edges.due("NOTHING ahead of PLACE", Edges.busy().shift(0, -1, 5, -1, -1), -11);
    }

    // Promise 34 (Terms 3): "CAST (-12): another sort or KIND;"
    // Promise 34: "CAST: of unlike sorts;"
    private static void shiftOfUnlikeSorts() {
        for (int from = 0; from <= 4; from++) {
            for (int to = 0; to <= 4; to++) {
                int t = from;
                int other = to;
                if (from != to) {
                    String call = "shift(" + from + ", 0, " + to + ", 0, 1)";
                    Edges.changesNothing(Edges.BUSY, -12, call, x -> x.shift(t, 0, other, 0, 1));
                    Edges.due("though none", Edges.busy().shift(t, 0, other, 0, 0), -12);
                    Edges.due("CAST ahead of PLACE", Edges.busy().shift(t, -1, other, 9, -1), -12);
                }
            }
        }
    }

    // Promise 34: "PLACE: n, i or j is below 0, or beyond either's end."
    private static void shiftBeyondAnEnd() {
        Edges.Made two = () -> {
            AmberGrains x = row(INTS, 1, 2, 3);
            x.tape(1, INTS, 2);
            return x;
        };
        int[][] beyond = {{0, 0, -1}, {0, 0, Edges.MIN}, {-1, 0, 1}, {Edges.MIN, 0, 1}, {0, -1, 1}, {0, Edges.MIN, 1},
            {-1, 0, 0}, {0, -1, 0}, {4, 0, 0}, {0, 3, 0}, {3, 0, 1}, {0, 2, 1}, {2, 0, 2}, {0, 1, 2}, {0, 0, 3},
            {0, 0, Edges.MAX}, {1, 1, Edges.MAX}, {Edges.MAX, 0, 1}, {0, Edges.MAX, 1}, {Edges.MAX, 0, 0},
            {0, Edges.MAX, 0}, {Edges.MAX, Edges.MAX, Edges.MAX}, {Edges.MIN, Edges.MIN, Edges.MIN},
            {Edges.MAX, 0, Edges.MIN}, {3, 2, -1}};
        for (int[] b : beyond) {
            String call = "shift(0, " + b[0] + ", 1, " + b[1] + ", " + b[2] + ")";
            Edges.changesNothing(two, -13, call, x -> x.shift(0, b[0], 1, b[1], b[2]));
        }
        Edges.due("to the ends", two.made().shift(0, 1, 1, 0, 2), 2);
        Edges.due("to the ends", two.made().shift(0, 2, 1, 1, 1), 1);
        Edges.due("from the shorter", two.made().shift(1, 0, 0, 1, 2), 2);
        Edges.due("from beyond the shorter", two.made().shift(1, 0, 0, 0, 3), -13);
        Edges.due("beyond itself", two.made().shift(0, 0, 0, 1, 3), -13);
    }
}
