/** Edges of THE TEXT and of how a SEA is read from it: promises 9 and 10. */
public final class TextEdgesTest {
    /** A text with every sort of clause and of test; what stands ahead of a bar is a SEA by itself. */
    private static final String[] PARTS = {"sour 12 !p<3", "4", "&(k=4|w>56)", "|!!d=1", "0", ";sweet 7 a=8", ";room 9",
        "0"};

    public static void main(String[] args) {
        Edges.run(TextEdgesTest.class);
    }

    private static void isSea(String text) {
        AmberGrains x = new AmberGrains();
        Edges.due("chart() of \"" + text + "\"", Edges.chart(x, text), 0);
        Edges.due("count(1) behind it", x.count(1), 1);
    }

    private static void hasFault(String text, int fault) {
        AmberGrains x = new AmberGrains();
        Edges.due("chart() of \"" + text + "\"", Edges.chart(x, text), -10 - fault);
        Edges.due("count(1) behind it", x.count(1), 0);
    }

    // ---- promise 9

    // Promise 9: "A sign (0 .. 127) comes behind THE TEXT's: how many it has."
    private static void feedAtBothEnds() {
        AmberGrains x = new AmberGrains();
        Edges.due("feed(0)", x.feed(0), 1);
        Edges.due("feed(127)", x.feed(127), 2);
        Edges.due("count(5)", x.count(5), 2);
    }

    // Promise 9: "BAD;"
    private static void feedBadly() {
        for (int sign : Edges.outside(0, 127)) {
            Edges.changesNothing(Edges.BUSY, -2, "feed(" + sign + ")", x -> x.feed(sign));
            Edges.changesNothing(Edges.NEW, -2, "feed(" + sign + ")", x -> x.feed(sign));
        }
    }

    private static AmberGrains withFullText() {
        AmberGrains x = Edges.tellers(3, 4, 0, 6);
        Edges.feed(x, "sour 9 p=0|" + "p=1|".repeat(21) + "p<500");
        return x;
    }

    // Promise 9 (Terms 1): "A SEA is read from THE TEXT (bytes, 100 at most):"
    // Promise 9: "FULL."
    private static void theHundredthAndTheNext() {
        AmberGrains x = new AmberGrains();
        for (int n = 1; n <= 100; n++) {
            Edges.due("the sign " + n, x.feed('r'), n);
        }
        Edges.due("the next", x.feed('r'), -4);
        Edges.due("count(5)", x.count(5), 100);
        Edges.Made full = TextEdgesTest::withFullText;
        Edges.changesNothing(full, -4, "feed(0)", y -> y.feed(0));
        Edges.changesNothing(full, -4, "feed(127)", y -> y.feed(127));
    }

    // Promise 9: "BAD; FULL."
    private static void feedRefusesInOrder() {
        for (int sign : Edges.outside(0, 127)) {
            Edges.due("BAD ahead of FULL", withFullText().feed(sign), -2);
        }
    }

    // ---- promise 10: numbers of SEAS, and when one holds

    // Promise 10: "THE TEXT, which is empty then, is a SEA, and holds: its number."
    private static void theFirstAndTheLastSea() {
        AmberGrains x = new AmberGrains();
        for (int n = 0; n <= 5; n++) {
            Edges.due("chart()", Edges.chart(x, "room " + (40 + n)), n);
            Edges.due("THE TEXT is empty", x.count(5), 0);
            Edges.due("it holds", x.told(1), 40 + n);
            Edges.due("count(1)", x.count(1), n + 1);
        }
    }

    // Promise 10 (Terms 1): "The newest SEA holds (6 at most);"
    private static void theNewestHoldsAlone() {
        AmberGrains x = Edges.tellers(0, 5, 0);
        Edges.chart(x, "sour 9 p=0;room 7");
        Edges.due("LOAD", x.of(0, 6), 14);
        Edges.chart(x, "sour 1 p=0");
        Edges.due("LOAD by the newest alone", x.of(0, 6), 6);
        Edges.due("ROOM of the newest, that has none", x.told(1), 30);
    }

    // Promise 10: "FULL: there are 6 (THE TEXT stays);"
    private static void theSeventhSeaIsRefused() {
        Edges.changesNothing(Edges.FILLED, -4, "chart()", x -> x.chart());
        AmberGrains x = Edges.filled();
        x.feed('x');
        Edges.due("FULL ahead of a FAULT", x.chart(), -4);
        Edges.due("THE TEXT stays", x.count(5), 7);
        Edges.due("it goes on from there", x.feed('y'), 8);
        Edges.due("the sixth holds", x.told(1), 25);
        AmberGrains none = new AmberGrains();
        for (int n = 0; n < 6; n++) {
            Edges.chart(none, "room 1");
        }
        Edges.due("FULL ahead of an empty text's FAULT", none.chart(), -4);
    }

    // Promise 10: "-10 less the FAULT (the one that held holds)."
    private static void behindAFaultTheOneThatHeldHolds() {
        Edges.changesNothing(Edges.BUSY, -12, "chart() of \"ro\"", x -> {
            long answer = x.chart();
            Edges.feed(x, "ro");
            return answer;
        });
        AmberGrains x = Edges.busy();
        x.chart();
        Edges.due("THE TEXT is empty", x.count(5), 0);
        Edges.due("the next is a SEA by itself, with the next number", Edges.chart(x, "room 3"), 1);
        AmberGrains none = new AmberGrains();
        Edges.chart(none, "room 3;");
        Edges.due("none held, and none holds", none.told(1), 30);
    }

    // Promise 10: "-10 less the FAULT"
    private static void theLeastAndTheGreatestFault() {
        Edges.due("nothing at all", new AmberGrains().chart(), -10);
        hasFault("x", 0);
        hasFault("sour 1 " + "p=1|".repeat(23) + "p", 100);
        hasFault("sour 01 " + "p=1|".repeat(23), 100);
        hasFault("sour 01 " + "p=1|".repeat(22) + "p=1x", 99);
    }

    // ---- promise 10: CLAUSES

    // Promise 10 (Terms 1): "CLAUSES, 1 to 10, with ; between:"
    private static void oneToTenClauses() {
        hasFault("", 0);
        for (int n = 1; n <= 10; n++) {
            isSea("room 1" + ";room 1".repeat(n - 1));
        }
        hasFault("room 1" + ";room 1".repeat(10), 69);
        hasFault("room 1" + ";room 1".repeat(9) + ";", 69);
        hasFault("room 1" + ";room 1".repeat(9) + "x", 69);
    }

    // Promise 10 (Terms 1): "CLAUSES, 1 to 10,"
    private static void theTenthClauseCounts() {
        AmberGrains x = Edges.tellers(0, 5, 0);
        Edges.chart(x, "room 1;".repeat(9) + "sour 7 p=0");
        Edges.due("LOAD", x.of(0, 6), 12);
        Edges.chart(x, "sour 7 p=0;" + "room 1;".repeat(8) + "room 2");
        Edges.due("LOAD by the first", x.of(0, 6), 12);
        Edges.due("ROOM by the tenth", x.told(1), 2);
    }

    // Promise 10 (Terms 1): "with ; between:"
    private static void whatStandsBetweenClauses() {
        hasFault(";room 1", 0);
        hasFault("room 1;", 7);
        hasFault("room 1;;room 1", 7);
        hasFault("room 1,room 1", 6);
        hasFault("room 1; room 1", 7);
        hasFault("room 1 ;room 1", 6);
        hasFault("room 1room 1", 6);
    }

    // Promise 10 (Terms 1): "sour n E; sweet n E; room n (one blank ahead of each part behind the word;"
    private static void oneBlankAheadOfEachPart() {
        isSea("sour 1 p=1");
        isSea("sweet 1 p=1");
        isSea("room 1");
        hasFault("sour1 p=1", 4);
        hasFault("sour  1 p=1", 5);
        hasFault("sour 1p=1", 6);
        hasFault("sour 1  p=1", 7);
        hasFault("sweet1 p=1", 5);
        hasFault("sweet  1 p=1", 6);
        hasFault("sweet 1p=1", 7);
        hasFault("sweet 1  p=1", 8);
        hasFault("room1", 4);
        hasFault("room  1", 5);
        hasFault("room\t1", 4);
        hasFault(" room 1", 0);
        hasFault("room 1 ", 6);
        hasFault("sour 1 p =1", 8);
        hasFault("sour 1 p= 1", 9);
        hasFault("sour 1 p=1 ", 10);
        hasFault("sour 1 p=1 |p=1", 10);
        hasFault("sour 1 p=1| p=1", 11);
        hasFault("sour 1 ! p=1", 8);
        hasFault("sour 1 ( p=1)", 8);
        hasFault("sour 1 (p=1 )", 11);
    }

    // Promise 10 (Terms 1): "sour n E; sweet n E; room n"
    private static void partsThatAreNotThere() {
        hasFault("sour", 4);
        hasFault("sour ", 5);
        hasFault("sour 1", 6);
        hasFault("sour 1 ", 7);
        hasFault("sour p=1", 5);
        hasFault("sour 1;room 1", 6);
        hasFault("sweet 1", 7);
        hasFault("room", 4);
        hasFault("room ", 5);
        hasFault("room ;", 5);
        hasFault("room 1 p=1", 6);
    }

    // Promise 10 (Terms 1): "sour n E; sweet n E; room n"
    private static void wordsThatAreNone() {
        for (String word : new String[] {"sour 1 p=1", "sweet 1 p=1", "room 1"}) {
            for (int i = 0; i < word.indexOf(' '); i++) {
                hasFault(word.substring(0, i) + "~" + word.substring(i + 1), i);
                hasFault(word.substring(0, i) + (char) (word.charAt(i) - 32) + word.substring(i + 1), i);
            }
        }
        hasFault("sweer 1 p=1", 4);
        hasFault("soeet 1 p=1", 2);
        hasFault("rour 1 p=1", 2);
        hasFault("s", 1);
    }

    // Promise 10 (Terms 1): "n 1 or 2 digits)."
    private static void oneOrTwoDigitsOfN() {
        for (String word : new String[] {"sour ", "sweet "}) {
            for (String n : new String[] {"0", "9", "00", "09", "10", "99"}) {
                isSea(word + n + " p=1");
            }
            hasFault(word + " p=1", word.length());
            hasFault(word + "100 p=1", word.length() + 2);
            hasFault(word + "001 p=1", word.length() + 2);
            hasFault(word + "-1 p=1", word.length());
            hasFault(word + "1x p=1", word.length() + 1);
        }
        int[][] rooms = {{0, 0}, {9, 9}, {10, 10}, {99, 99}};
        for (int[] r : rooms) {
            AmberGrains x = new AmberGrains();
            Edges.due("room " + r[0], Edges.chart(x, "room " + r[0]), 0);
            Edges.due("ROOM", x.told(1), r[1]);
        }
        AmberGrains x = new AmberGrains();
        Edges.chart(x, "room 07");
        Edges.due("ROOM 07", x.told(1), 7);
        hasFault("room 100", 7);
        hasFault("room 000", 7);
        hasFault("room +1", 5);
    }

    // Promise 10 (Terms 1): "n 1 or 2 digits)."
    private static void theSignsBesideTheDigits() {
        hasFault("room /", 5);
        hasFault("room :", 5);
        hasFault("room 1/", 6);
        hasFault("room 1:", 6);
        hasFault("sour 1 p=/", 9);
        hasFault("sour 1 p=:", 9);
    }

    // Promise 10 (Terms 1): "ROOM (30 without): the last one's n."
    private static void theLastRoom() {
        AmberGrains x = new AmberGrains();
        Edges.chart(x, "room 5;room 6;sour 1 p=1;room 7;sour 1 p=1");
        Edges.due("ROOM", x.told(1), 7);
        Edges.chart(x, "sour 1 p=1");
        Edges.due("a SEA without one", x.told(1), 30);
        Edges.chart(x, "room 8;room 0");
        Edges.due("ROOM 0 is one", x.told(1), 0);
    }

    // ---- promise 10: E, T, F, TESTS

    /** LOAD of the first of one TELLER of WEIGHT 0 by a sour 1 with this E: 1, if it holds. */
    private static void holds(String e, boolean due) {
        AmberGrains x = Edges.tellers(0, 0, 0);
        Edges.due("chart()", Edges.chart(x, "sour 1 " + e), 0);
        Edges.due(e, x.of(0, 6), due ? 1 : 0);
    }

    // Promise 10 (Terms 1): "E: T or T|E."
    private static void oneOrManyOfWhichOneHolds() {
        holds("p=0|p=0", true);
        holds("p=0|p=1", true);
        holds("p=1|p=0", true);
        holds("p=1|p=1", false);
        holds("p=1|".repeat(22) + "p=0", true);
        holds("p=0|" + "p=1|".repeat(21) + "p=1", true);
        holds("p=1|".repeat(22) + "p=1", false);
        hasFault("sour 1 |p=1", 7);
        hasFault("sour 1 p=1|", 11);
        hasFault("sour 1 p=1||p=1", 11);
        hasFault("sour 1 p=1|&p=1", 11);
    }

    // Promise 10 (Terms 1): "T: F or F&T."
    private static void oneOrManyWhichAllHold() {
        holds("p=0&p=0", true);
        holds("p=0&p=1", false);
        holds("p=1&p=0", false);
        holds("p=1&p=1", false);
        holds("p=0&".repeat(22) + "p=0", true);
        holds("p=0&".repeat(22) + "p=1", false);
        holds("p=1&" + "p=0&".repeat(21) + "p=0", false);
        hasFault("sour 1 &p=1", 7);
        hasFault("sour 1 p=1&", 11);
        hasFault("sour 1 p=1&&p=1", 11);
        hasFault("sour 1 p=1&|p=1", 11);
    }

    // Promise 10 (Terms 1): "E: T or T|E. T: F or F&T. F: !F, (E), or a TEST:"
    private static void whatBindsCloser() {
        holds("p=0|p=0&p=1", true);
        holds("p=1&p=1|p=0", true);
        holds("(p=0|p=0)&p=1", false);
        holds("p=1&(p=1|p=0)", false);
        holds("p=1&p=0|p=0&p=1", false);
        holds("p=1&p=0|p=0&p=0|p=1", true);
        holds("!p=0|p=0", true);
        holds("!(p=0|p=0)", false);
        holds("!p=1&p=1", false);
        holds("!(p=1&p=1)", true);
        holds("p=1|!p=1&!p=2", true);
        holds("!!p=0", true);
        holds("!!!p=0", false);
        holds("((p=0))", true);
        hasFault("sour 1 !", 8);
        hasFault("sour 1 (", 8);
        hasFault("sour 1 ()", 8);
        hasFault("sour 1 (p=1", 11);
        hasFault("sour 1 (p=1;room 1", 11);
        hasFault("sour 1 p=1)", 10);
        hasFault("sour 1 (p=1))", 12);
        hasFault("sour 1 p=1!", 10);
        hasFault("sour 1 p=1(", 10);
        hasFault("sour 1 )", 7);
    }

    // Promise 10 (Terms 1): "E: T or T|E. T: F or F&T. F: !F, (E), or a TEST:"
    private static void eachTestOnEachSide() {
        String[] good = {"p<1", "p=0", "!p>0", "(p<1)", "((p=0|p=1))", "!(p>0)", "(p=0&p=0)", "!!p<1"};
        String[] bad = {"p>0", "p=1", "!p<1", "(p>0)", "((p=0&p=1))", "!(p=0)", "(p=1|p=1)", "!!p>0"};
        for (int i = 0; i < good.length; i++) {
            for (int j = 0; j < good.length; j++) {
                holds(good[i] + "&" + good[j], true);
                holds(good[i] + "&" + bad[j], false);
                holds(bad[i] + "&" + good[j], false);
                holds(good[i] + "|" + bad[j], true);
                holds(bad[i] + "|" + good[j], true);
                holds(bad[i] + "|" + bad[j], false);
                holds(good[i] + "|" + bad[j] + "&" + bad[i], true);
                holds(bad[i] + "|" + good[j] + "&" + bad[i], false);
                holds(bad[i] + "&" + bad[j] + "|" + good[i], true);
            }
        }
    }

    // Promise 10 (Terms 1): "F: !F, (E), or a TEST:"
    private static void whatWaitsAheadOfFourWithin() {
        holds("p=0|(p=1|(p=1|(p=1|(p=1&p=1))))", true);
        holds("p=1|(p=0|(p=1|(p=1|(p=1&p=1))))", true);
        holds("p=1|(p=1|(p=1|(p=0|(p=1&p=1))))", true);
        holds("p=1|(p=1|(p=1|(p=1|(p=0&p=0))))", true);
        holds("p=1|(p=1|(p=1|(p=1|(p=0&p=1))))", false);
        holds("p=0&(p=0&(p=0&(p=0&(p=1|p=0))))", true);
        holds("p=1&(p=0&(p=0&(p=0&(p=1|p=0))))", false);
        holds("p=0&(p=0&(p=0&(p=0&(p=1|p=1))))", false);
        holds("p=1|p=0&(p=1|p=0&(p=1|p=0&(p=1|p=0&(p=1|p=0&p=0))))", true);
        holds("p=1|p=0&(p=1|p=0&(p=1|p=0&(p=1|p=0&(p=1|p=0&p=1))))", false);
        holds("p=0|p=1&(p=1|p=0&(p=1|p=0&(p=1|p=0&(p=1|p=0&p=1))))", true);
    }

    // Promise 10 (Terms 1): "a letter, < or = or >, a number (1 or 2 digits):"
    private static void partsOfATest() {
        for (char letter : "pkvwad".toCharArray()) {
            for (char sign : "<=>".toCharArray()) {
                isSea("sour 1 " + letter + sign + "0");
                isSea("sour 1 " + letter + sign + "99");
            }
        }
        for (char c = 0; c <= 127; c++) {
            if ("pkvwad!(".indexOf(c) < 0) {
                hasFault("sour 1 " + c + "=1", 7);
            }
            if ("<=>".indexOf(c) < 0) {
                hasFault("sour 1 p" + c + "1", 8);
            }
            if (c < '0' || c > '9') {
                hasFault("sour 1 p=" + c, 9);
            }
            if ((c < '0' || c > '9') && "&|;".indexOf(c) < 0) {
                hasFault("sour 1 p=1" + c, 10);
            }
        }
        hasFault("sour 1 p", 8);
        hasFault("sour 1 p=", 9);
        hasFault("sour 1 p<=1", 9);
        hasFault("sour 1 p=100", 11);
        hasFault("sour 1 p=001", 11);
    }

    // Promise 10 (Terms 1): "a number (1 or 2 digits):"
    private static void numbersOfATest() {
        holds("p=0", true);
        holds("p=00", true);
        holds("p<01", true);
        holds("p<00", false);
        holds("p<10", true);
        holds("p=10", false);
        holds("p<99", true);
        holds("p>99", false);
    }

    /** A TELLER's LOAD by a sour for each of less, same, more: whether what the letter stands for is so. */
    private static void stands(AmberGrains x, int p, char letter, int is) {
        int half = x.of(p, 0) == 2 || x.of(p, 0) == 5 ? 2 : 1;
        long without = x.of(p, 6);
        for (int n = Math.max(0, is - 1); n <= is + 1; n++) {
            String of = " " + letter;
            Edges.chart(x, "sour 20" + of + "<" + n + ";sour 40" + of + "=" + n + ";sour 80" + of + ">" + n);
            long due = (is < n ? 20 : is == n ? 40 : 80) / half;
            Edges.due(letter + " of " + is + " beside " + n, x.of(p, 6), without + due);
        }
    }

    // Promise 10 (Terms 1): "of a TELLER p its number,"
    private static void theLetterOfTheNumber() {
        for (int p : new int[] {0, 1, 5}) {
            stands(Edges.tellers(3, 4, 0, 0, 0, 0, 0, 0), p, 'p', p);
        }
    }

    // Promise 10 (Terms 1): "k its KIND,"
    private static void theLetterOfTheKind() {
        for (int kind = 0; kind <= 6; kind++) {
            stands(Edges.tellers(0, 0, kind), 0, 'k', kind);
        }
    }

    // Promise 10 (Terms 1): "v its v,"
    private static void theLetterOfItsV() {
        for (int v : new int[] {0, 1, 9}) {
            stands(Edges.tellers(v, 4, 0), 0, 'v', v);
        }
    }

    // Promise 10 (Terms 1): "w its WEIGHT,"
    private static void theLetterOfTheWeight() {
        for (int weight : new int[] {0, 1, 9, 10, 20}) {
            stands(Edges.tellers(3, weight, 0), 0, 'w', weight);
        }
        AmberGrains x = Edges.tellers(3, 4, 0);
        x.weigh(0, 20);
        stands(x, 0, 'w', 20);
    }

    // Promise 10 (Terms 1): "a AGE modulo 10,"
    private static void theLetterOfTheAge() {
        for (int age : new int[] {0, 1, 9, 10, 11, 19, 20, 99, 100}) {
            AmberGrains x = Edges.tellers(3, 0, 0);
            x.pass(3);
            x.tell(0);
            Edges.pass(x, age);
            Edges.due("AGE", x.of(0, 4), age);
            stands(x, 0, 'a', age % 10);
        }
        AmberGrains last = Edges.pass(Edges.told(0, 0, 0), 9999);
        Edges.due("AGE", last.of(0, 4), 9999);
        stands(last, 0, 'a', 9);
    }

    // Promise 10 (Terms 1): "d DAY modulo 10."
    private static void theLetterOfTheDay() {
        for (int day : new int[] {0, 1, 9, 10, 11, 19, 20, 99, 100}) {
            stands(Edges.pass(Edges.tellers(3, 0, 0), day), 0, 'd', day % 10);
        }
        stands(Edges.pass(Edges.tellers(0, 0, 0), 9999), 0, 'd', 9);
    }

    // ---- promise 10: how deep, and the FAULT

    /** The signs of ( and ! by the bits of a number, a test within them, and what closes them. */
    private static String nested(int bits, int many) {
        StringBuilder b = new StringBuilder();
        for (int k = 0; k < many; k++) {
            b.append((bits >> k & 1) == 0 ? '(' : '!');
        }
        return b + "p=0" + ")".repeat(many - Integer.bitCount(bits));
    }

    // Promise 10 (Terms 1): "A ( or ! within 4 others is none."
    private static void fourWithinEachOtherAndTheFifth() {
        for (int bits = 0; bits < 16; bits++) {
            isSea("sour 1 " + nested(bits, 4));
            holds(nested(bits, 4), Integer.bitCount(bits) % 2 == 0);
        }
        for (int bits = 0; bits < 32; bits++) {
            hasFault("sour 1 " + nested(bits, 5), 11);
        }
    }

    // Promise 10 (Terms 1): "A ( or ! within 4 others is none."
    private static void whatIsClosedCountsNoMore() {
        isSea("sour 1 ((((p=1))))|((((p=1))))&!!!!p=1");
        isSea("sour 1 (((!p=1&!p=1|!p=1)))");
        isSea("sour 1 !(!(p=1)&!(p=1))&!!!!p=1");
        isSea("sour 1 ((((p=1))));sour 1 ((((p=1))))");
        hasFault("sour 1 ((((p=1&(p=1)))))", 15);
        hasFault("sour 1 ((((p=1|!p=1))))", 15);
        hasFault("sour 1 !!!!p=1;sour 1 !!!!!p=1", 26);
        hasFault("sour 1 (((!p=1&!(p=1))))", 16);
    }

    // Promise 10 (Terms 1): "The FAULT: the place of the first byte with which none begins so"
    private static void aWrongByteAtEachPlace() {
        String text = String.join("", PARTS);
        for (int i = 0; i <= text.length(); i++) {
            for (int sign : new int[] {0, 31, '~', 127}) {
                hasFault(text.substring(0, i) + (char) sign, i);
                hasFault(text.substring(0, i) + (char) sign + text.substring(Math.min(text.length(), i + 1)), i);
            }
        }
    }

    // Promise 10 (Terms 1): "(the end of THE TEXT, if it ends too early)."
    private static void anEndAtEachPlace() {
        String text = String.join("", PARTS);
        int end = 0;
        int part = 0;
        for (int i = 0; i <= text.length(); i++) {
            if (i == end + PARTS[part].length()) {
                isSea(text.substring(0, i));
                end = i;
                part = Math.min(part + 1, PARTS.length - 1);
            } else {
                hasFault(text.substring(0, i), i);
            }
        }
    }

    // Promise 10 (Terms 1): "(the end of THE TEXT, if it ends too early)."
    private static void anEndBehindTheHundredthByte() {
        String[] ends = {"p=1;", "p=1;s", "p=1;so", "p=1;sw", "p=1;r", "p=1;room", "p=1;room ", "p=1;sour", "p=1;sour ",
            "p=1;sour 1", "p=1;sweet 12 ", "p=1&", "p=1|", "!", "(", "(p=1", "p", "p<", "p=", "p>"};
        for (String end : ends) {
            StringBuilder text = new StringBuilder("sour 1 ");
            while (text.length() + 4 + end.length() <= 100) {
                text.append("p=1|");
            }
            // One to three bytes more: a second digit each.
            for (int at = 10; text.length() + end.length() < 100; at += 5) {
                text.insert(at, '0');
            }
            hasFault(text + end, 100);
        }
    }

    // Promise 10 (Terms 1): "A SEA is read from THE TEXT (bytes, 100 at most):"
    private static void aSeaOfAHundredBytes() {
        AmberGrains x = withFullText();
        Edges.due("p<500 has three digits", x.chart(), -109);
        Edges.feed(x, "sour 9 p=0|" + "p=1|".repeat(21) + "p<50");
        Edges.due("99 bytes", x.chart(), 0);
        Edges.feed(x, "sour 99 p=1&" + "p=1&".repeat(21) + "p<50");
        Edges.due("100 bytes", x.chart(), 1);
        Edges.due("LOAD of the second, as TWIN with ROW", x.of(1, 6), 4 + 99);
        Edges.due("LOAD of the first", x.of(0, 6), 4);
    }
}
