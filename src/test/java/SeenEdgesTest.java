/** Edges of what is SEEN, of what can have been, of odds and of the mean: promises 15 to 19. */
public final class SeenEdgesTest {
    private static final int ALL = (1 << 21) - 1;

    public static void main(String[] args) {
        Edges.run(SeenEdgesTest.class);
    }

    // ---- promise 15

    // Promise 15: "What is SEEN comes: how many there are"
    private static void seenAtBothEnds() {
        AmberGrains x = Edges.tellers(0, 0, 0, 0, 0, 0, 0, 0);
        Edges.due("see(0, 0, 0)", x.see(0, 0, 0), 1);
        Edges.due("see(5, 12, 4)", x.see(5, 12, 4), 2);
        Edges.due("the same again", x.see(5, 12, 4), 3);
        Edges.due("count(2)", x.count(2), 3);
    }

    // Promise 15: "(teller -1: none then, 0, whatever the others are)."
    private static void seenIsEmptied() {
        for (int n : Edges.around(0, 12)) {
            for (int state : Edges.around(0, 4)) {
                AmberGrains x = Edges.filled();
                String call = "see(-1, " + n + ", " + state + ")";
                Edges.due(call, x.see(-1, n, state), 0);
                Edges.due("count(2)", x.count(2), 0);
                Edges.due("nothing is asked of any", x.weights(0), ALL);
                Edges.due("there is room", x.see(0, 0, 0), 1);
            }
        }
        Edges.due("empty already", new AmberGrains().see(-1, 0, 0), 0);
    }

    // Promise 15: "NONE;"
    private static void seeNoSuchOne() {
        for (int p : new int[] {Edges.MIN, -3, -2, 5, 6, Edges.MAX}) {
            Edges.changesNothing(Edges.BUSY, -1, "see(" + p + ", 1, 1)", x -> x.see(p, 1, 1));
        }
        Edges.due("without TELLERS", new AmberGrains().see(0, 0, 0), -1);
    }

    // Promise 15: "BAD: n,"
    private static void seeOnABadDay() {
        for (int n : Edges.outside(0, 12)) {
            Edges.changesNothing(Edges.BUSY, -2, "see(0, " + n + ", 1)", x -> x.see(0, n, 1));
        }
    }

    // Promise 15: "state (0 .. 4);"
    private static void seeInABadState() {
        for (int state : Edges.outside(0, 4)) {
            Edges.changesNothing(Edges.BUSY, -2, "see(0, 1, " + state + ")", x -> x.see(0, 1, state));
        }
        AmberGrains x = Edges.tellers(0, 0, 0);
        for (int state = 0; state <= 4; state++) {
            Edges.due("STATE " + state, x.see(0, 0, state), state + 1);
        }
    }

    // Promise 15 (Terms 2): "SEEN told by hand: one, DAYS n (0 .. 12) from now, its STATE then (5 rows at most)."
    // Promise 15: "FULL: 5."
    private static void fiveAreSeenAndTheSixthIsRefused() {
        AmberGrains x = Edges.tellers(0, 0, 0);
        for (int k = 1; k <= 5; k++) {
            Edges.due("see", x.see(0, 3, 0), k);
        }
        Edges.due("the sixth", x.see(0, 3, 0), -4);
        Edges.changesNothing(Edges.FILLED, -4, "see(0, 12, 4)", y -> y.see(0, 12, 4));
        Edges.changesNothing(Edges.FILLED, -4, "see(5, 0, 0)", y -> y.see(5, 0, 0));
    }

    // Promise 15: "NONE; BAD: n, state (0 .. 4); FULL: 5."
    private static void seeRefusesInOrder() {
        AmberGrains full = Edges.filled();
        for (int p : new int[] {Edges.MIN, -2, 0, 5, 6, Edges.MAX}) {
            for (int n : Edges.around(0, 12)) {
                for (int state : Edges.around(0, 4)) {
                    boolean good = Edges.in(n, 0, 12) && Edges.in(state, 0, 4);
                    long due = !Edges.in(p, 0, 5) ? -1 : good ? -4 : -2;
                    Edges.due("see(" + p + ", " + n + ", " + state + ") of five", full.see(p, n, state), due);
                }
            }
        }
        Edges.due("count(2)", full.count(2), 5);
    }

    // ---- promise 16

    // Promise 16 (Terms 2): "WEIGHTS of one: those numbers 0 .. 20, as bits, by which, were that its WEIGHT now,"
    private static void noWeightTheFirstAndTheLast() {
        AmberGrains x = Edges.told(0, 5, 0);
        Edges.due("nothing is SEEN: all", x.weights(0), ALL);
        Edges.chart(x, "room 19");
        x.see(0, 1, 2);
        Edges.due("up by 20 alone", x.weights(0), 1 << 20);
        Edges.chart(x, "room 0");
        x.see(-1, 0, 0);
        x.see(0, 1, 1);
        Edges.due("WITHIN by 0 alone", x.weights(0), 1);
        x.see(-1, 0, 0);
        x.see(0, 1, 2);
        Edges.due("up by 1 and more", x.weights(0), ALL - 1);
        x.see(0, 1, 1);
        Edges.due("both at once by none", x.weights(0), 0);
        Edges.due("WEIGHT", x.of(0, 2), 5);
    }

    // Promise 16 (Terms 2): "all of SEEN is so."
    private static void eachRowOfSeenCounts() {
        for (int wrong = 0; wrong < 5; wrong++) {
            AmberGrains x = Edges.tellers(0, 5, 0, 0);
            for (int k = 0; k < 5; k++) {
                x.see(1, k, k == wrong ? 1 : 0);
            }
            Edges.due("row " + wrong + " is not so", x.weights(0), 0);
            Edges.due("nor by another v", x.can(0, 0), 0);
        }
        AmberGrains x = Edges.tellers(0, 5, 0, 0);
        for (int k = 0; k < 5; k++) {
            x.see(1, k, 0);
        }
        Edges.due("all five are so", x.weights(0), ALL);
    }

    // Promise 16 (Terms 2): "DAYS n (0 .. 12) from now, its STATE then"
    private static void seenNowAndInTwelveDays() {
        AmberGrains x = Edges.upWithDayEleven();
        x.see(0, 12, 2);
        x.see(0, 11, 1);
        x.see(0, 0, 1);
        // The SEA's ROOM is 17: by WEIGHT 0 it comes up with 18 on DAY 11; by 9 or more it does so on DAY 1 already.
        Edges.due("WITHIN for eleven, ADRIFT in twelve", x.weights(0), 0x1FF);
        x.see(-1, 0, 0);
        x.see(0, 12, 1);
        Edges.due("WITHIN in twelve", x.weights(0), 0);
        x.see(-1, 0, 0);
        x.see(0, 0, 2);
        Edges.due("ADRIFT now", x.weights(0), 0);
    }

    // Promise 16 (Terms 2): "its STATE then"
    private static void seenInEachState() {
        AmberGrains x = Edges.tellers(0, 0, 0, 0, 0, 0, 0);
        x.tell(1);
        for (int p = 2; p <= 4; p++) {
            x.put(p, 6, p);
        }
        for (int p = 0; p <= 4; p++) {
            for (int state = 0; state <= 4; state++) {
                x.see(-1, 0, 0);
                x.see(p, 0, state);
                Edges.due("one of STATE " + p + " SEEN in " + state, x.weights(0), p == state ? ALL : 0);
            }
        }
    }

    // Promise 16 (Terms 2): "DAYS n (0 .. 12) from now,"
    private static void fromNowIsFromWhenItIsAsked() {
        AmberGrains x = Edges.upWithDayEleven();
        x.see(0, 5, 2);
        Edges.due("on DAY 0", x.weights(0) & 1, 0);
        x.pass(6);
        Edges.due("on DAY 6, DAY 10 is none", x.weights(0) & 1, 0);
        x.pass(1);
        Edges.due("on DAY 7, with DAY 11", x.weights(0) & 1, 1);
    }

    // Promise 16 (Terms 2): "goes on from how all is (DAYS, AGE beyond 9999, too),"
    private static void seenBeyondTheLastDay() {
        AmberGrains x = Edges.pass(Edges.tellers(3, 4, 1), 9999);
        x.tell(0);
        Edges.chart(x, "sour 20 d=1&a=2;room 28");
        x.sea(0, 0);
        x.see(0, 2, 1);
        x.see(0, 3, 2);
        // With DAY 10001, if WEIGHT and v are 9 or more together.
        Edges.due("WEIGHTS", x.weights(0), ALL & ~((1 << 6) - 1));
        Edges.due("CAN", x.can(0, 0), 5);
        Edges.due("CAN, the least", x.can(0, 1), 5);
        x.sea(2, 1);
        x.sea(3, 0);
        x.sea(4, 0);
        x.sea(5, 0);
        x.put(0, 4, 2);
        x.sea(0, 1 << 5);
        oddsAre(x, 0, 1, 0, 1);
        oddsAre(x, 0, 2, 1, 12);
        oddsAre(x, 0, 3, 1, 6);
        Edges.due("DAY", x.told(0), 9999);
    }

    // Promise 16: "WEIGHTS (bits). NONE."
    private static void weightsOfNoSuchOne() {
        for (int p : Edges.outside(0, 4)) {
            Edges.changesNothing(Edges.BUSY, -1, "weights(" + p + ")", x -> x.weights(p));
        }
        Edges.due("without TELLERS", new AmberGrains().weights(0), -1);
    }

    // Promise 16 (Answers): "what is asked changes nothing."
    private static void weightsChangeNothing() {
        for (int p = 0; p <= 4; p++) {
            int one = p;
            Edges.asks(Edges.BUSY, "weights(" + p + ")", x -> x.weights(one));
        }
    }

    // ---- promise 17

    /** A BOSUN of WEIGHT 20 that is WITHIN, with this ROOM, and was SEEN in this STATE behind one DAY. */
    private static AmberGrains bosun(int room, int state) {
        AmberGrains x = Edges.told(4, 20, 1);
        Edges.chart(x, "room " + room);
        x.see(0, 1, state);
        return x;
    }

    // Promise 17 (Terms 2): "CAN of one: how many numbers v (0 .. 9) likewise; the least (-5: none)."
    private static void noVTheFirstAndTheLast() {
        Edges.due("up by 9 alone", bosun(28, 2).can(0, 0), 1);
        Edges.due("9", bosun(28, 2).can(0, 1), 9);
        Edges.due("WITHIN by 0 alone", bosun(20, 1).can(0, 0), 1);
        Edges.due("0", bosun(20, 1).can(0, 1), 0);
        Edges.due("up by none", bosun(29, 2).can(0, 0), 0);
        Edges.due("none", bosun(29, 2).can(0, 1), -5);
        Edges.due("up by all", bosun(19, 2).can(0, 0), 10);
        Edges.due("the first", bosun(19, 2).can(0, 1), 0);
        Edges.due("up by 1 to 9", bosun(20, 2).can(0, 0), 9);
        Edges.due("1", bosun(20, 2).can(0, 1), 1);
        AmberGrains x = Edges.tellers(4, 20, 1);
        Edges.due("nothing is SEEN", x.can(0, 0), 10);
        Edges.due("nothing is SEEN", x.can(0, 1), 0);
        Edges.due("v", x.of(0, 1), 4);
    }

    // Promise 17: "CAN: what 0 how many, 1 the least; -5. NONE."
    private static void canOfNoSuchOneOrWhat() {
        for (int p : Edges.outside(0, 4)) {
            Edges.changesNothing(Edges.BUSY, -1, "can(" + p + ", 0)", x -> x.can(p, 0));
            Edges.changesNothing(Edges.BUSY, -1, "can(" + p + ", 1)", x -> x.can(p, 1));
        }
        for (int what : Edges.outside(0, 1)) {
            Edges.changesNothing(Edges.BUSY, -1, "can(0, " + what + ")", x -> x.can(0, what));
        }
        Edges.due("without TELLERS", new AmberGrains().can(0, 0), -1);
    }

    // Promise 17 (Answers): "what is asked changes nothing."
    private static void canChangesNothing() {
        for (int p = 0; p <= 4; p++) {
            int one = p;
            Edges.asks(Edges.BUSY, "can(" + p + ", 0)", x -> x.can(one, 0));
            Edges.asks(Edges.BUSY, "can(" + p + ", 1)", x -> x.can(one, 1));
        }
    }

    // ---- promise 18

    private static void oddsAre(AmberGrains x, int p, int n, long above, long below) {
        Edges.due("odds(" + p + ", " + n + ", 0)", x.odds(p, n, 0), above);
        Edges.due("odds(" + p + ", " + n + ", 1)", x.odds(p, n, 1), below);
    }

    // Promise 18 (Terms 2): "if FINDER is at any of the 12 PLACES now, each alike likely:"
    // Promise 18 (Terms 2): "how likely it is FOUND behind n: a fraction in lowest terms."
    private static void oddsOfEachDay() {
        AmberGrains x = Edges.tellers(0, 0, 0, 0);
        x.put(1, 11, 3);
        long[][] due = {{0, 1}, {1, 12}, {1, 6}, {1, 4}, {1, 3}, {5, 12}, {1, 2}, {7, 12}, {2, 3}, {3, 4}, {5, 6},
            {11, 12}, {1, 1}, {1, 1}};
        for (int n = 0; n < due.length; n++) {
            oddsAre(x, 1, n, due[n][0], due[n][1]);
            oddsAre(x, 0, n, 0, 1);
        }
        Edges.due("FINDER is where it was", x.told(3), 0);
    }

    // Promise 18 (Terms 2): "ODDS of one and n DAYS (0 .. 20):"
    private static void oddsOfNoDayAndOfTwenty() {
        AmberGrains x = Edges.oneEachTwentyDays(1);
        x.sea(0, 1 << 7);
        oddsAre(x, 0, 19, 0, 1);
        oddsAre(x, 0, 20, 1, 12);
        AmberGrains y = Edges.tellers(0, 0, 0, 0);
        y.put(0, 3, 4);
        y.put(1, 0, 3);
        oddsAre(y, 0, 0, 1, 1);
        oddsAre(y, 0, 20, 1, 1);
        oddsAre(y, 1, 0, 0, 1);
        oddsAre(y, 1, 20, 1, 1);
    }

    // Promise 18: "ODDS; part 0 above, 1 below the line. NO: teller, n, part."
    private static void noSuchOdds() {
        for (int p : Edges.outside(0, 4)) {
            Edges.changesNothing(Edges.BUSY, Edges.NO, "odds(" + p + ", 3, 0)", x -> x.odds(p, 3, 0));
        }
        for (int n : Edges.outside(0, 20)) {
            Edges.changesNothing(Edges.BUSY, Edges.NO, "odds(0, " + n + ", 1)", x -> x.odds(0, n, 1));
        }
        for (int part : Edges.outside(0, 1)) {
            Edges.changesNothing(Edges.BUSY, Edges.NO, "odds(0, 3, " + part + ")", x -> x.odds(0, 3, part));
        }
        Edges.due("without TELLERS", new AmberGrains().odds(0, 0, 0), Edges.NO);
    }

    // Promise 18 (Answers): "what is asked changes nothing."
    private static void oddsChangeNothing() {
        for (int n : new int[] {0, 1, 20}) {
            Edges.asks(Edges.BUSY, "odds(3, " + n + ", 0)", x -> x.odds(3, n, 0));
            Edges.asks(Edges.BUSY, "odds(3, " + n + ", 1)", x -> x.odds(3, n, 1));
        }
    }

    // ---- promise 19

    private static void meanIs(AmberGrains x, long above, long below) {
        Edges.due("mean(0)", x.mean(0), above);
        Edges.due("mean(1)", x.mean(1), below);
    }

    // Promise 19 (Terms 2): "MEAN: LOADS of all WITHIN, together, by how many they are: a fraction in lowest terms,"
    private static void meanOfOneToSix() {
        AmberGrains x = Edges.tellers(0, 20, 0, 0, 0, 0, 0, 0);
        int[] weights = {20, 19, 0, 1, 13, 1};
        long[][] due = {{20, 1}, {39, 2}, {13, 1}, {10, 1}, {53, 5}, {9, 1}};
        for (int p = 0; p < 6; p++) {
            x.weigh(p, weights[p]);
            x.tell(p);
            meanIs(x, due[p][0], due[p][1]);
        }
        x.weigh(0, 0);
        meanIs(x, 17, 3);
        x.weigh(0, 1);
        meanIs(x, 35, 6);
        x.put(1, 0, 2);
        x.put(4, 0, 4);
        meanIs(x, 3, 4);
    }

    // Promise 19 (Terms 2): "what is above the line maybe below 0"
    private static void meanOfNothingAndBelow() {
        AmberGrains x = Edges.told(0, 0, 0, 0, 0, 0);
        meanIs(x, 0, 1);
        Edges.chart(x, "sweet 2 p=0");
        meanIs(x, -1, 2);
        Edges.chart(x, "sweet 4 p=0");
        meanIs(x, -1, 1);
        Edges.chart(x, "sweet 3 p=0");
        meanIs(x, -3, 4);
        Edges.chart(x, "sweet 99 p<9;sweet 99 p<9");
        meanIs(x, -198, 1);
    }

    // Promise 19 (Terms 2): "(NO: there are none)."
    private static void meanOfNone() {
        for (int part = 0; part <= 1; part++) {
            Edges.due("without TELLERS", new AmberGrains().mean(part), Edges.NO);
            Edges.due("one SILENT", Edges.tellers(0, 5, 0).mean(part), Edges.NO);
            AmberGrains x = Edges.tellers(0, 5, 0, 0, 0);
            for (int p = 0; p < 3; p++) {
                x.put(p, 0, p + 2);
            }
            Edges.due("none WITHIN", x.mean(part), Edges.NO);
        }
    }

    // Promise 19: "MEAN; part likewise. NO."
    private static void noSuchPartOfTheMean() {
        for (int part : Edges.outside(0, 1)) {
            Edges.changesNothing(Edges.BUSY, Edges.NO, "mean(" + part + ")", x -> x.mean(part));
        }
    }

    // Promise 19 (Answers): "what is asked changes nothing."
    private static void meanChangesNothing() {
        Edges.asks(Edges.BUSY, "mean(0)", x -> x.mean(0));
        Edges.asks(Edges.BUSY, "mean(1)", x -> x.mean(1));
    }
}
