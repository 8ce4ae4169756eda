/** Edges of how DAYS go and of what is asked of them: promises 12 to 14, and what of promise 3 asks of DAYS to come. */
public final class DaysEdgesTest {
    public static void main(String[] args) {
        Edges.run(DaysEdgesTest.class);
    }

    /** One TELLER at this PLACE, ADRIFT, this CURRENT each DAY, this SHORE. */
    private static AmberGrains adrift(int place, int current, int shore) {
        AmberGrains x = Edges.tellers(0, 0, 0);
        x.put(0, place, 2);
        Edges.currents(x, current);
        x.sea(0, shore);
        return x;
    }

    // ---- a DAY: what comes up

    // Promise 12 (Terms 1): "A DAY goes: first, if the LOADS of all WITHIN, together, are more than ROOM,"
    private static void asMuchAsRoomAndOneMore() {
        AmberGrains x = Edges.told(0, 15, 0, 0);
        x.pass(1);
        Edges.due("30 beside ROOM 30", x.told(5), 3);
        x.weigh(1, 16);
        x.pass(1);
        Edges.due("31", x.told(5), 1);

        AmberGrains none = Edges.told(0, 0, 0);
        Edges.chart(none, "room 0");
        none.pass(60);
        Edges.due("0 beside ROOM 0", none.told(5), 1);
        none.weigh(0, 1);
        none.pass(1);
        Edges.due("1 beside ROOM 0", none.told(5), 0);

        AmberGrains most = Edges.told(0, 20, 0, 0, 0, 0, 0);
        Edges.chart(most, "room 99");
        most.weigh(4, 19);
        most.pass(1);
        Edges.due("99 beside ROOM 99", most.told(5), 31);
        most.weigh(4, 20);
        most.pass(1);
        Edges.due("100 beside ROOM 99", most.told(5), 30);
    }

    // Promise 12 (Terms 1): "the LOADS of all WITHIN, together,"
    private static void onlyThoseWithinAreCounted() {
        AmberGrains x = Edges.tellers(0, 20, 0, 0, 0, 0, 0);
        x.put(1, 1, 2);
        x.put(2, 1, 3);
        x.put(3, 1, 4);
        x.tell(4);
        x.pass(1);
        Edges.due("20 alone, the others are not WITHIN", x.told(5), 16);
        x.tell(0);
        x.pass(1);
        Edges.due("40 with one of them", x.told(5), 16);
    }

    // Promise 12 (Terms 1): "LOAD of a TELLER (may be below 0)"
    private static void whatIsBelowNothingMakesRoom() {
        AmberGrains x = Edges.told(0, 20, 0, 0);
        Edges.chart(x, "sweet 30 p=1;room 10");
        x.pass(1);
        Edges.due("20 and -10 beside ROOM 10", x.told(5), 3);
        Edges.chart(x, "sweet 29 p=1;room 10");
        x.pass(1);
        Edges.due("20 and -9 beside ROOM 10", x.told(5), 2);
        Edges.chart(x, "sweet 99 p=1;room 0");
        x.pass(60);
        Edges.due("-79 beside ROOM 0", x.told(5), 2);
    }

    // Promise 12 (Terms 1): "the one of these whose LOAD is greatest (of several the first) is ADRIFT,"
    private static void theGreatestAndOfSeveralTheFirst() {
        int[][] weights = {{20, 19, 18}, {18, 20, 19}, {18, 19, 20}, {20, 20, 20}, {18, 20, 20}, {20, 18, 20}};
        int[] up = {0, 1, 2, 0, 1, 0};
        for (int k = 0; k < up.length; k++) {
            AmberGrains x = Edges.told(0, 0, 0, 0, 0);
            for (int p = 0; p < 3; p++) {
                x.weigh(p, weights[k][p]);
            }
            x.sea(0, 0);
            x.pass(1);
            Edges.due("row " + k, x.told(5), 7 & ~(1 << up[k]));
            Edges.due("it is ADRIFT", x.of(up[k], 3), 2);
        }
    }

    // Promise 12 (Terms 1): "the one of these whose LOAD is greatest"
    private static void loadCountsNotWeightNorOneNotWithin() {
        AmberGrains x = Edges.tellers(0, 20, 0, 2, 0, 0);
        x.weigh(2, 11);
        x.weigh(3, 10);
        for (int p = 1; p < 4; p++) {
            x.tell(p);
        }
        x.pass(1);
        Edges.due("11, not the half of 20, nor 20 that is SILENT", x.told(5), 10);
        AmberGrains below = Edges.told(0, 10, 0, 0, 0);
        Edges.chart(below, "sweet 20 p=0;sour 30 p=2;sweet 5 p=1;room 0");
        below.pass(1);
        Edges.due("-10, 5, 40", below.told(5), 3);
    }

    // Promise 12 (Terms 1): "the one of these"
    private static void oneADay() {
        AmberGrains x = Edges.told(0, 20, 0, 0, 0, 0, 0, 0);
        int[] within = {62, 60, 56, 48, 32, 32, 32};
        for (int day = 0; day < within.length; day++) {
            x.pass(1);
            Edges.due("behind DAY " + day, x.told(5), within[day]);
        }
    }

    // Promise 12 (Terms 1): "at the PLACE (DAY and three times its number) modulo 12."
    private static void whereItComesUp() {
        int[][] rows = {{0, 0, 0}, {11, 0, 11}, {12, 0, 0}, {13, 0, 1}, {8, 1, 11}, {9, 1, 0}, {5, 2, 11}, {6, 2, 0},
            {2, 3, 11}, {3, 3, 0}, {0, 4, 0}, {11, 4, 11}, {0, 5, 3}, {8, 5, 11}, {9, 5, 0}, {9998, 5, 5}};
        for (int[] r : rows) {
            AmberGrains x = Edges.tellers(0, 20, 0, 0, 0, 0, 0, 0);
            Edges.currents(x, 0);
            x.sea(0, 0);
            Edges.chart(x, "room 19");
            Edges.pass(x, r[0]);
            x.tell(r[1]);
            x.pass(1);
            Edges.due("the one of number " + r[1] + " on DAY " + r[0], x.of(r[1], 5), r[2]);
        }
    }

    // ---- a DAY: how it drifts

    // Promise 12 (Terms 1): "PLACES 0 .. 11 lie in a ring (behind 11 is 0);"
    // Promise 12 (Terms 1): "comes on by the CURRENT of the DAY (round the ring);"
    private static void roundTheRing() {
        for (int place = 0; place <= 11; place++) {
            for (int current : new int[] {0, 1, 9}) {
                AmberGrains x = adrift(place, current, 0);
                x.pass(1);
                int due = place + current > 11 ? place + current - 12 : place + current;
                Edges.due("from " + place + " by " + current, x.of(0, 5), due);
                Edges.due("no SHORE", x.of(0, 3), 2);
            }
        }
    }

    // Promise 12 (Terms 1): "Then each one ADRIFT (that one, too)"
    private static void thatOneToo() {
        AmberGrains x = Edges.told(0, 20, 0, 0);
        x.put(1, 3, 2);
        Edges.chart(x, "room 19");
        Edges.currents(x, 9);
        x.sea(0, 0);
        x.pass(1);
        Edges.due("up at 0 and 9 on", x.of(0, 5), 9);
        Edges.due("the other, from 3", x.of(1, 5), 0);
    }

    // Promise 12 (Terms 1): "that of a DAY is the one at DAY modulo 4."
    private static void theCurrentOfEachDay() {
        AmberGrains x = adrift(0, 0, 0);
        for (int k = 0; k < 4; k++) {
            x.sea(2 + k, k + 1);
        }
        int[] places = {1, 3, 6, 10, 11, 1, 4, 8, 9};
        for (int day = 0; day < places.length; day++) {
            x.pass(1);
            Edges.due("behind DAY " + day, x.of(0, 5), places[day]);
        }
    }

    // Promise 12 (Terms 1): "if its PLACE is of SHORE then, it is ASHORE."
    private static void eachPlaceOfShore() {
        for (int place = 0; place <= 11; place++) {
            AmberGrains x = adrift(place, 0, 1 << place);
            x.sea(1, place);
            x.pass(1);
            Edges.due("SHORE at " + place + " alone", x.of(0, 3), 3);
            AmberGrains not = adrift(place, 0, 4095 & ~(1 << place));
            not.pass(60);
            Edges.due("SHORE but at " + place, not.of(0, 3), 2);
        }
        AmberGrains then = adrift(4, 1, 1 << 4);
        then.pass(1);
        Edges.due("it was at SHORE, and is not then", then.of(0, 3), 2);
        Edges.due("it is at 5", then.of(0, 5), 5);
        AmberGrains next = adrift(4, 1, 1 << 5);
        next.sea(1, 6);
        next.pass(1);
        Edges.due("it comes to SHORE", next.of(0, 3), 3);
    }

    // Promise 12 (Terms 1): "SHORE is a set of them, as bits"
    private static void noShoreAndShoreEverywhere() {
        AmberGrains none = adrift(0, 1, 0);
        none.pass(60);
        Edges.due("no SHORE", none.of(0, 3), 2);
        AmberGrains all = adrift(11, 1, 4095);
        all.sea(1, 5);
        all.pass(1);
        Edges.due("SHORE everywhere", all.of(0, 3), 3);
        Edges.due("at 0", all.of(0, 5), 0);
    }

    // Promise 12 (Terms 1): "each one ADRIFT"
    private static void onlyThoseAdriftComeOn() {
        AmberGrains x = Edges.tellers(0, 0, 0, 0, 0, 0);
        x.tell(1);
        x.put(2, 7, 3);
        x.put(3, 7, 4);
        x.sea(0, 0);
        x.pass(2);
        int[] places = {0, 0, 7, 7};
        int[] states = {0, 1, 3, 4};
        for (int p = 0; p < 4; p++) {
            Edges.due("PLACE of " + p, x.of(p, 5), places[p]);
            Edges.due("STATE of " + p, x.of(p, 3), states[p]);
        }
    }

    // ---- a DAY: what is found, AGE, DAY

    // Promise 12 (Terms 1): "Then FINDER comes one PLACE on, and each one ASHORE there is FOUND."
    private static void whereTheFinderComes() {
        for (int place = 0; place <= 11; place++) {
            AmberGrains x = Edges.tellers(0, 0, 0, 0, 0, 0);
            x.put(0, place, 3);
            x.put(1, (place + 1) % 12, 3);
            x.put(2, (place + 1) % 12, 3);
            x.put(3, (place + 2) % 12, 3);
            x.sea(1, place);
            x.pass(1);
            Edges.due("FINDER behind " + place, x.told(3), place == 11 ? 0 : place + 1);
            int[] states = {3, 4, 4, 3};
            for (int p = 0; p < 4; p++) {
                Edges.due("STATE of " + p, x.of(p, 3), states[p]);
            }
        }
    }

    // Promise 12 (Terms 1): "each one ASHORE there is FOUND."
    private static void foundTheDayItComesAshore() {
        AmberGrains x = adrift(11, 1, 1);
        x.sea(1, 11);
        x.pass(1);
        Edges.due("ASHORE at 0 and FOUND there", x.of(0, 3), 4);
        AmberGrains not = adrift(11, 1, 0);
        not.sea(1, 11);
        not.pass(1);
        Edges.due("ADRIFT where FINDER is", not.of(0, 3), 2);
        AmberGrains up = Edges.told(0, 20, 0);
        Edges.chart(up, "room 19");
        up.sea(0, 2);
        up.pass(1);
        Edges.due("up, ASHORE and FOUND in one DAY", up.of(0, 3), 4);
    }

    // Promise 12 (Terms 1): "AGE of each one WITHIN is 1 more"
    private static void whoseAgeIsMore() {
        AmberGrains x = Edges.tellers(0, 0, 0, 0, 0, 0, 0);
        for (int p = 1; p < 5; p++) {
            x.tell(p);
        }
        x.pass(3);
        for (int p = 2; p < 5; p++) {
            x.put(p, 11, p);
        }
        x.pass(4);
        int[] ages = {0, 7, 3, 3, 3};
        for (int p = 0; p < 5; p++) {
            Edges.due("AGE of " + p, x.of(p, 4), ages[p]);
        }
        AmberGrains up = Edges.told(0, 20, 0, 0);
        up.pass(1);
        Edges.due("AGE of the one that comes up", up.of(0, 4), 0);
        Edges.due("AGE of the other", up.of(1, 4), 1);
    }

    // Promise 12 (Terms 1): "(9999 at most); DAY is 1 more."
    private static void ageAndDayAtTheLast() {
        AmberGrains x = Edges.told(0, 0, 0);
        Edges.pass(x, 9998);
        Edges.due("AGE", x.of(0, 4), 9998);
        Edges.due("DAY", x.pass(1), 9999);
        Edges.due("AGE", x.of(0, 4), 9999);
        Edges.due("no DAY more", x.pass(1), -3);
        Edges.due("AGE", x.of(0, 4), 9999);
    }

    // ---- promise 12

    // Promise 12: "n DAYS (0 .. 60) go: DAY."
    private static void noDayAndSixty() {
        AmberGrains x = Edges.busy();
        Edges.due("pass(60)", x.pass(60), 62);
        Edges.due("DAY", x.told(0), 62);
        Edges.due("FINDER, from 9", x.told(3), 9);
        Edges.changesNothing(Edges.BUSY, 2, "pass(0)", y -> y.pass(0));
        Edges.due("without TELLERS", new AmberGrains().pass(60), 60);
    }

    // Promise 12: "BAD;"
    private static void passBadly() {
        for (int n : Edges.outside(0, 60)) {
            Edges.changesNothing(Edges.BUSY, -2, "pass(" + n + ")", x -> x.pass(n));
        }
    }

    private static AmberGrains on9940() {
        AmberGrains x = Edges.told(3, 5, 0, 5);
        return Edges.pass(x, 9940);
    }

    // Promise 12: "STATE: it would be above 9999."
    private static void toTheLastDayAndBeyond() {
        Edges.Made late = DaysEdgesTest::on9940;
        Edges.changesNothing(late, -3, "pass(60) on DAY 9940", x -> x.pass(60));
        AmberGrains x = on9940();
        Edges.due("pass(59)", x.pass(59), 9999);
        Edges.due("pass(0)", x.pass(0), 9999);
        Edges.due("pass(1)", x.pass(1), -3);
        Edges.due("pass(60)", x.pass(60), -3);
        Edges.due("DAY", x.told(0), 9999);
    }

    // Promise 12: "BAD; STATE: it would be above 9999."
    private static void passRefusesInOrder() {
        AmberGrains x = Edges.pass(new AmberGrains(), 9999);
        for (int n : Edges.outside(0, 60)) {
            Edges.due("BAD ahead of STATE", x.pass(n), -2);
        }
    }

    // ---- promise 13

    // Promise 13: "ON: what 0 how many are FOUND, 10 and p STATE, 20 and p PLACE of TELLER p."
    private static void onEachOfSix() {
        AmberGrains x = Edges.tellers(0, 0, 0, 0, 0, 0, 0, 0);
        for (int p = 0; p < 6; p++) {
            x.put(p, 2 * p, 2 + p % 3);
        }
        Edges.currents(x, 1);
        x.sea(0, 0);
        for (int p = 0; p < 6; p++) {
            Edges.due("STATE of " + p, x.on(0, 10 + p), 2 + p % 3);
            Edges.due("PLACE of " + p, x.on(0, 20 + p), 2 * p);
            Edges.due("PLACE of " + p + " behind 7", x.on(7, 20 + p), p % 3 == 0 ? (2 * p + 7) % 12 : 2 * p);
        }
        Edges.due("FOUND", x.on(0, 0), 2);
        Edges.due("FOUND behind 1", x.on(1, 0), 2);
        Edges.due("FOUND behind 2, at 2", x.on(2, 0), 3);
        Edges.due("FOUND behind 8, at 8", x.on(8, 0), 4);
        for (int p = 0; p < 6; p++) {
            x.put(p, p, 3);
        }
        Edges.due("none", x.on(0, 0), 0);
        Edges.due("none at 0", x.on(5, 10), 3);
        Edges.due("five", x.on(11, 0), 5);
        Edges.due("all", x.on(12, 0), 6);
    }

    // Promise 13 (Terms 2): "ON n DAYS (0 .. 60): STATE of one; PLACE of one; how many are FOUND."
    private static void onNoDayAndSixty() {
        AmberGrains x = Edges.oneEachTwentyDays(3);
        x.sea(0, 1 << 5);
        x.sea(1, 5);
        Edges.due("STATE now", x.on(0, 12), 1);
        Edges.due("STATE behind 59", x.on(59, 12), 1);
        Edges.due("STATE behind 60", x.on(60, 12), 4);
        Edges.due("PLACE behind 59", x.on(59, 22), 0);
        Edges.due("PLACE behind 60", x.on(60, 22), 5);
        Edges.due("FOUND behind 59", x.on(59, 0), 0);
        Edges.due("FOUND behind 60", x.on(60, 0), 1);
        Edges.due("FOUND now", x.on(0, 0), 0);
    }

    // Promise 13: "NONE;"
    private static void onNoSuchWhat() {
        for (int what : new int[] {Edges.MIN, -2, -1, 1, 9, 15, 16, 19, 25, 26, 30, Edges.MAX}) {
            Edges.changesNothing(Edges.BUSY, -1, "on(3, " + what + ")", x -> x.on(3, what));
        }
        for (int what : new int[] {9, 16, 19, 26}) {
            Edges.due("of six: " + what, Edges.filled().on(3, what), -1);
        }
        Edges.due("STATE without TELLERS", new AmberGrains().on(0, 10), -1);
        Edges.due("PLACE without TELLERS", new AmberGrains().on(0, 20), -1);
        Edges.due("FOUND without TELLERS", new AmberGrains().on(60, 0), 0);
    }

    // Promise 13: "BAD: n."
    private static void onBadly() {
        for (int n : Edges.outside(0, 60)) {
            for (int what : new int[] {0, 10, 14, 20, 24}) {
                Edges.changesNothing(Edges.BUSY, -2, "on(" + n + ", " + what + ")", x -> x.on(n, what));
            }
        }
    }

    // Promise 13: "NONE; BAD: n."
    private static void onRefusesInOrder() {
        for (int n : Edges.outside(0, 60)) {
            for (int what : new int[] {-1, 1, 15, 25}) {
                Edges.due("NONE ahead of BAD", Edges.busy().on(n, what), -1);
            }
        }
    }

    // Promise 13 (Terms 2): "All that follows is asked, goes on from how all is (DAYS, AGE beyond 9999, too), and"
    private static void askedBeyondTheLastDay() {
        AmberGrains x = Edges.tellers(0, 0, 0, 6, 0);
        x.row(1, 0, 9);
        x.tell(0);
        Edges.pass(x, 9999);
        x.tell(1);
        x.put(2, 1, 2);
        x.sea(0, 0);
        for (int k = 0; k < 4; k++) {
            x.sea(2 + k, k + 2);
        }
        Edges.due("PLACE by DAY 9999", x.on(1, 22), 6);
        Edges.due("PLACE by DAY 10000", x.on(2, 22), 8);
        Edges.due("PLACE by DAY 10001", x.on(3, 22), 11);
        Edges.chart(x, "sour 1 p=1;room 9");
        Edges.due("by ROW of DAY 10000 one is up with it", x.of(1, 12), 2);
        Edges.due("at (10000 and 3) modulo 12, by 2", x.on(2, 21), 9);
        Edges.chart(x, "sour 31 d=0&p=0");
        Edges.due("DAY 10000 ends with 0", x.of(0, 12), 2);
        Edges.chart(x, "sour 31 a=1&p=0");
        Edges.due("so does AGE 10000, and 10001 with 1", x.of(0, 12), 3);
        Edges.chart(x, "sour 31 a=9&d=9&p=0");
        Edges.due("AGE now", x.of(0, 12), 1);
        Edges.due("DAY is as it was", x.told(0), 9999);
        Edges.due("AGE is as it was", x.of(0, 4), 9999);
    }

    // Promise 13 (Terms 2): "and changes nothing."
    private static void onChangesNothing() {
        for (int what : new int[] {0, 10, 14, 20, 24}) {
            for (int n : new int[] {0, 1, 60}) {
                Edges.asks(Edges.BUSY, "on(" + n + ", " + what + ")", x -> x.on(n, what));
            }
        }
    }

    // ---- promise 14

    // Promise 14 (Terms 2): "BEGIN of n DAYS (1 .. 20):"
    private static void beginOfOneDayAndOfTwenty() {
        AmberGrains one = Edges.tellers(0, 0, 0);
        for (int place = 0; place <= 11; place++) {
            one.put(0, place, 3);
            Edges.due("one DAY to " + place, one.begin(1, 0), place == 0 ? 11 : place - 1);
            Edges.due("one", one.begin(1, 1), 1);
        }
        AmberGrains x = Edges.oneEachTwentyDays(1);
        x.sea(0, 1 << 7);
        Edges.due("it comes to 7 with DAY 19: none behind 19", x.begin(19, 1), 0);
        Edges.due("so the first", x.begin(19, 0), 0);
        Edges.due("one behind 20", x.begin(20, 1), 1);
        Edges.due("by 11, of which 7 is 20 on", x.begin(20, 0), 11);
    }

    // Promise 14 (Terms 2): "the PLACE by which, were FINDER there now, most are FOUND behind n"
    private static void mostAreFound() {
        AmberGrains x = Edges.tellers(0, 0, 0, 0, 0, 0, 0, 0);
        int[] places = {2, 8, 9, 9, 9, 3};
        for (int p = 0; p < 6; p++) {
            x.put(p, places[p], 3);
        }
        Edges.due("three at 9", x.begin(1, 0), 8);
        Edges.due("three", x.begin(1, 1), 3);
        Edges.due("8 and 9", x.begin(2, 0), 7);
        Edges.due("four", x.begin(2, 1), 4);
        // From 8 round the ring to 2 there are five, too.
        Edges.due("3 to 9, the first", x.begin(7, 0), 2);
        Edges.due("five", x.begin(7, 1), 5);
        Edges.due("2 to 9", x.begin(8, 0), 1);
        Edges.due("six", x.begin(8, 1), 6);
        x.put(5, 11, 3);
        Edges.due("round the ring: 8 to 2", x.begin(7, 0), 7);
        Edges.due("six", x.begin(7, 1), 6);
        for (int p = 0; p < 6; p++) {
            x.put(p, 5, 4);
        }
        Edges.due("all are FOUND already", x.begin(1, 1), 6);
        Edges.due("all are FOUND already: the first", x.begin(1, 0), 0);
    }

    // Promise 14 (Terms 2): "(of several the first); how many."
    private static void beginOfSeveralTheFirst() {
        AmberGrains x = Edges.tellers(0, 0, 0, 0);
        Edges.due("by none, the first", x.begin(20, 0), 0);
        Edges.due("none", x.begin(20, 1), 0);
        x.put(0, 4, 3);
        x.put(1, 10, 3);
        Edges.due("4 or 10", x.begin(1, 0), 3);
        Edges.due("4 or 10 within 3", x.begin(3, 0), 1);
        Edges.due("all, from anywhere", x.begin(12, 0), 0);
        Edges.due("all but from 4 to 9 within 11", x.begin(11, 1), 2);
        Edges.due("without TELLERS", new AmberGrains().begin(1, 0), 0);
        Edges.due("without TELLERS", new AmberGrains().begin(1, 1), 0);
    }

    // Promise 14: "BEGIN: what 0 where, 1 how many. NONE: what;"
    private static void beginOfNoSuchWhat() {
        for (int what : Edges.outside(0, 1)) {
            Edges.changesNothing(Edges.BUSY, -1, "begin(5, " + what + ")", x -> x.begin(5, what));
        }
    }

    // Promise 14: "BAD: n."
    private static void beginBadly() {
        for (int n : Edges.outside(1, 20)) {
            Edges.changesNothing(Edges.BUSY, -2, "begin(" + n + ", 0)", x -> x.begin(n, 0));
            Edges.changesNothing(Edges.BUSY, -2, "begin(" + n + ", 1)", x -> x.begin(n, 1));
        }
    }

    // Promise 14: "NONE: what; BAD: n."
    private static void beginRefusesInOrder() {
        for (int n : Edges.outside(1, 20)) {
            for (int what : Edges.outside(0, 1)) {
                Edges.due("NONE ahead of BAD", Edges.busy().begin(n, what), -1);
            }
        }
    }

    // Promise 14 (Terms 2): "goes on from how all is (DAYS, AGE beyond 9999, too),"
    private static void beginBeyondTheLastDay() {
        AmberGrains x = Edges.pass(Edges.tellers(0, 0, 0), 9999);
        x.put(0, 4, 2);
        Edges.currents(x, 0);
        x.sea(2, 1);
        x.sea(0, 1 << 5);
        // The CURRENT of DAY 10000 brings it to 5, so one DAY is too few.
        Edges.due("one DAY", x.begin(1, 1), 0);
        Edges.due("two DAYS", x.begin(2, 1), 1);
        Edges.due("from 3 two on", x.begin(2, 0), 3);
        Edges.due("twenty", x.begin(20, 1), 1);
        Edges.due("DAY", x.told(0), 9999);
    }

    // Promise 14 (Answers): "what is asked changes nothing."
    private static void beginChangesNothing() {
        for (int n : new int[] {1, 20}) {
            Edges.asks(Edges.BUSY, "begin(" + n + ", 0)", x -> x.begin(n, 0));
            Edges.asks(Edges.BUSY, "begin(" + n + ", 1)", x -> x.begin(n, 1));
        }
    }

    // ---- promise 3: COMES

    // Promise 3 (Terms 2): "COMES of one to a STATE (2 .. 4): the fewest DAYS (0 .. 60) behind which its STATE is that"
    private static void comesInNoDayInSixtyAndInMore() {
        AmberGrains x = Edges.oneEachTwentyDays(4);
        int[] first = {20, 40, 60, -5};
        for (int p = 0; p < 4; p++) {
            Edges.due("on DAY 0, " + p, x.of(p, 12), first[p]);
        }
        x.pass(19);
        int[] later = {1, 21, 41, -5};
        for (int p = 0; p < 4; p++) {
            Edges.due("on DAY 19, " + p, x.of(p, 12), later[p]);
        }
        x.pass(1);
        int[] last = {0, 20, 40, 60};
        for (int p = 0; p < 4; p++) {
            Edges.due("on DAY 20, " + p, x.of(p, 12), last[p]);
        }
        x.sea(0, 1 << 4);
        x.sea(1, 4);
        Edges.due("ASHORE behind 60", x.of(3, 13), 60);
        Edges.due("FOUND behind 60", x.of(3, 14), 60);
        x.sea(1, 3);
        Edges.due("FOUND behind 61", x.of(3, 14), -5);
        Edges.due("ASHORE behind 60", x.of(3, 13), 60);
    }

    // Promise 3 (Terms 2): "or more (-5: not by then)."
    private static void comesToThatOrMore() {
        AmberGrains x = Edges.tellers(0, 0, 0, 0, 0);
        for (int p = 0; p < 3; p++) {
            x.put(p, 1, p + 2);
        }
        x.sea(0, 0);
        x.sea(1, 5);
        int[][] due = {{0, -5, -5}, {0, 0, 8}, {0, 0, 0}};
        for (int p = 0; p < 3; p++) {
            for (int k = 2; k <= 4; k++) {
                Edges.due("STATE " + (p + 2) + " to " + k, x.of(p, 10 + k), due[p][k - 2]);
            }
        }
        AmberGrains silent = Edges.tellers(0, 20, 0);
        for (int k = 2; k <= 4; k++) {
            Edges.due("one SILENT to " + k, silent.of(0, 10 + k), -5);
        }
    }

    // ---- promise 3: BLOW

    // Promise 3 (Terms 2): "BLOW of one: the CURRENT (0 .. 9) by which, were all four that from now on, COMES of it"
    private static void blowByNoneOfTenAndByTheLast() {
        Edges.due("by 0, where it is", adrift(3, 1, 1 << 3).of(0, 7), 0);
        Edges.due("by 9 in one DAY", adrift(3, 1, 1).of(0, 7), 9);
        Edges.due("10 on, by 5 in two", adrift(2, 1, 1).of(0, 7), 5);
        Edges.due("11 on, by 1 in eleven, 5 in seven, 7 in five", adrift(1, 1, 1).of(0, 7), 7);
        for (int current = 0; current <= 9; current++) {
            Edges.due("by " + current, adrift(0, 9, 1 << current).of(0, 7), current);
        }
    }

    // Promise 3 (Terms 2): "to 3 is least, -5 being greater than all (of several the first; -5: by none)."
    private static void blowOfSeveralAndByNone() {
        Edges.due("by 2 and by 4 in one DAY", adrift(0, 1, 1 << 2 | 1 << 4).of(0, 7), 2);
        Edges.due("by any", adrift(6, 1, 4095).of(0, 7), 0);
        Edges.due("no SHORE", adrift(6, 1, 0).of(0, 7), -5);
        Edges.due("one SILENT", Edges.tellers(0, 20, 0).of(0, 7), -5);
        Edges.due("one WITHIN that stays", Edges.told(0, 20, 0).of(0, 7), -5);
        AmberGrains x = Edges.tellers(0, 0, 0, 0);
        x.put(0, 1, 3);
        x.put(1, 1, 4);
        Edges.due("ASHORE already", x.of(0, 7), 0);
        Edges.due("FOUND already", x.of(1, 7), 0);
    }

    // Promise 3 (Terms 2): "-5 being greater than all"
    private static void blowInSixtyDaysAndInMore() {
        AmberGrains x = Edges.oneEachTwentyDays(3);
        x.sea(0, 1 << 2);
        Edges.due("up at 5 with DAY 59, by 9 to 2", x.of(2, 7), 9);
        x.sea(0, 1 << 3);
        Edges.due("by none to 3 in one DAY", x.of(2, 7), -5);
        x.sea(0, 1 << 5);
        Edges.due("by 0", x.of(2, 7), 0);
    }

    // Promise 3 (Terms 2): "were all four that from now on,"
    private static void blowIsAskedAndNotSo() {
        AmberGrains x = adrift(0, 3, 1 << 6);
        Edges.due("BLOW", x.of(0, 7), 6);
        for (int k = 0; k < 4; k++) {
            Edges.due("CURRENT", x.told(10 + k), 3);
        }
        Edges.due("COMES as it is", x.of(0, 13), 2);
    }

    // ---- promise 3: NEWS

    // Promise 3 (Terms 2): "NEWS of one: the one that is SILENT, by which, were it told now, COMES of the other"
    private static void newsByEachOfSix() {
        for (int news = 0; news < 6; news++) {
            AmberGrains x = Edges.tellers(0, 0, 0, 0, 0, 0, 0, 0);
            int one = news == 0 ? 5 : 0;
            x.weigh(one, 20);
            x.weigh(news, 11);
            x.tell(one);
            Edges.due("by " + news, x.of(one, 8), news);
            x.weigh(news, 10);
            Edges.due("30 has room", x.of(one, 8), -5);
            Edges.due("it is SILENT still", x.of(news, 3), 0);
        }
    }

    // Promise 3 (Terms 2): "to 2 is least, if less than as it is, likewise"
    private static void newsIfLessThanAsItIs() {
        AmberGrains x = Edges.tellers(0, 0, 4, 0, 0);
        x.weigh(0, 20);
        x.weigh(1, 20);
        x.weigh(2, 20);
        Edges.chart(x, "sweet 19 p=1&d<3;room 20");
        x.tell(0);
        Edges.due("as it is, never", x.of(0, 12), -5);
        Edges.due("1 lies light for three DAYS, 2 not", x.of(0, 8), 1);
        x.tell(2);
        Edges.due("as it is, with the first DAY", x.of(0, 12), 1);
        Edges.due("by none sooner", x.of(0, 8), -5);
    }

    // Promise 3 (Terms 2): "COMES of the other to 2 is least,"
    private static void newsByTheOneWithWhichItIsLeast() {
        AmberGrains x = new AmberGrains();
        x.teller(0, 0, 20);
        x.teller(4, 9, 2);
        x.teller(4, 3, 9);
        x.teller(4, 4, 10);
        x.tell(0);
        Edges.due("1 in ten DAYS, 2 in four, 3 in five", x.of(0, 8), 2);
        x.tell(2);
        Edges.due("as it is", x.of(0, 12), 4);
        Edges.due("by none sooner", x.of(0, 8), -5);
    }

    // Promise 3 (Terms 2): "(of several the first; -5: none; the one itself may be it, if it is SILENT)."
    private static void newsOfSeveralOfNoneAndOfItself() {
        AmberGrains x = Edges.tellers(0, 20, 0, 0, 0);
        x.tell(0);
        Edges.due("1 or 2", x.of(0, 8), 1);
        AmberGrains self = Edges.tellers(9, 20, 1, 1);
        Edges.chart(self, "room 28");
        Edges.due("itself, the first", self.of(0, 8), 0);
        Edges.due("itself, the second", self.of(1, 8), 1);
        AmberGrains all = Edges.told(0, 20, 0);
        Edges.due("none is SILENT", all.of(0, 8), -5);
        AmberGrains by = Edges.tellers(0, 20, 0, 0);
        Edges.due("itself told has room; another told is not it", by.of(0, 8), -5);
        by.put(0, 3, 2);
        Edges.due("ADRIFT already: none is less than 0", by.of(0, 8), -5);
        by.put(0, 3, 4);
        Edges.due("FOUND already", by.of(0, 8), -5);
    }

    // Promise 3 (Terms 2): "goes on from how all is (DAYS, AGE beyond 9999, too),"
    private static void ofBeyondTheLastDay() {
        AmberGrains x = Edges.pass(Edges.tellers(0, 0, 0, 0), 9999);
        Edges.chart(x, "sour 31 d=0&p=1");
        x.sea(0, 1 << 9);
        x.tell(0);
        Edges.due("COMES, as it is", x.of(1, 12), -5);
        Edges.due("NEWS: itself, with DAY 10000", x.of(1, 8), 1);
        x.tell(1);
        Edges.due("COMES", x.of(1, 12), 2);
        // Up at (10000 and 3) modulo 12, that is 7.
        Edges.due("BLOW to 9", x.of(1, 7), 2);
        Edges.due("DAY", x.told(0), 9999);
    }

    // Promise 3 (Terms 2): "if less than as it is, likewise"
    private static void newsInSixtyDaysAndInMore() {
        AmberGrains x = Edges.oneEachTwentyDays(3);
        x.teller(6, 0, 0);
        x.row(3, 3, 9);
        x.pass(19);
        Edges.due("by itself in 61 DAYS", x.of(3, 8), -5);
        x.pass(1);
        Edges.due("by itself in 60 DAYS", x.of(3, 8), 3);
    }
}
