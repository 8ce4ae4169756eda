/** Edges of the PLAN, the BOOK and THE IMAGE: promises 20 to 23, 25 and 26. */
public final class RowsEdgesTest {
    public static void main(String[] args) {
        Edges.run(RowsEdgesTest.class);
    }

    // ---- promise 20

    // Promise 20: "A row comes to the PLAN: how many there are"
    // Promise 20 (Terms 2): "3 FINDER is at PLACE n; 10 rows at most)"
    private static void planAtBothEnds() {
        AmberGrains x = Edges.tellers(0, 0, 0, 0, 0, 0, 0, 0);
        int[][] rows = {{0, 0}, {1, 0}, {1, 5}, {2, 0}, {2, 5}, {3, 0}, {3, 11}};
        for (int k = 0; k < rows.length; k++) {
            Edges.due("plan(" + rows[k][0] + ", " + rows[k][1] + ")", x.plan(rows[k][0], rows[k][1]), k + 1);
        }
        Edges.due("count(3)", x.count(3), rows.length);
    }

    // Promise 20: "(what -1: it is empty then, 0, whatever the other is)."
    private static void planIsEmptied() {
        for (int n : new int[] {Edges.MIN, -1, 0, 11, 12, Edges.MAX}) {
            AmberGrains x = Edges.filled();
            Edges.due("plan(-1, " + n + ")", x.plan(-1, n), 0);
            Edges.due("count(3)", x.count(3), 0);
            Edges.due("ENDS as it is", x.ends(1), x.told(5));
            Edges.due("there is room", x.plan(0, 0), 1);
        }
        Edges.due("empty already", new AmberGrains().plan(-1, 0), 0);
    }

    // Promise 20: "NONE: what (0 .. 3),"
    private static void planNoSuchWhat() {
        for (int what : new int[] {Edges.MIN, -3, -2, 4, Edges.MAX}) {
            Edges.changesNothing(Edges.BUSY, -1, "plan(" + what + ", 0)", x -> x.plan(what, 0));
        }
    }

    // Promise 20: "teller (by 1, 2),"
    private static void planOfNoSuchOne() {
        for (int p : Edges.outside(0, 4)) {
            Edges.changesNothing(Edges.BUSY, -1, "plan(1, " + p + ")", x -> x.plan(1, p));
            Edges.changesNothing(Edges.BUSY, -1, "plan(2, " + p + ")", x -> x.plan(2, p));
        }
        Edges.due("told, without TELLERS", new AmberGrains().plan(1, 0), -1);
        Edges.due("SILENT, without TELLERS", new AmberGrains().plan(2, 0), -1);
    }

    // Promise 20: "PLACE (by 3;"
    private static void planAtNoSuchPlace() {
        for (int place : Edges.outside(0, 11)) {
            Edges.changesNothing(Edges.BUSY, -1, "plan(3, " + place + ")", x -> x.plan(3, place));
        }
        Edges.due("PLACES need no TELLERS", new AmberGrains().plan(3, 11), 1);
    }

    // Promise 20: "by 0 n does not matter);"
    private static void planOfADayWithAnyNumber() {
        AmberGrains x = new AmberGrains();
        int many = 0;
        for (int n : Edges.around(0, 11)) {
            many++;
            Edges.due("plan(0, " + n + ")", x.plan(0, n), many);
        }
    }

    // Promise 20: "FULL: 10."
    private static void theEleventhRowIsRefused() {
        AmberGrains x = new AmberGrains();
        for (int k = 1; k <= 10; k++) {
            Edges.due("plan", x.plan(3, k), k);
        }
        Edges.due("the eleventh", x.plan(0, 0), -4);
        Edges.changesNothing(Edges.FILLED, -4, "plan(0, 0)", y -> y.plan(0, 0));
        Edges.changesNothing(Edges.FILLED, -4, "plan(1, 5)", y -> y.plan(1, 5));
        Edges.changesNothing(Edges.FILLED, -4, "plan(3, 11)", y -> y.plan(3, 11));
    }

    // Promise 20: "NONE: what (0 .. 3), teller (by 1, 2), PLACE (by 3; by 0 n does not matter); FULL: 10."
    private static void planRefusesInOrder() {
        AmberGrains full = Edges.filled();
        for (int what : new int[] {Edges.MIN, -2, 0, 1, 2, 3, 4, Edges.MAX}) {
            for (int n : new int[] {Edges.MIN, -1, 0, 5, 6, 11, 12, Edges.MAX}) {
                boolean none = !Edges.in(what, 0, 3) || (what == 1 || what == 2) && !Edges.in(n, 0, 5)
                    || what == 3 && !Edges.in(n, 0, 11);
                Edges.due("plan(" + what + ", " + n + ") of ten", full.plan(what, n), none ? -1 : -4);
            }
        }
        Edges.due("count(3)", full.count(3), 10);
    }

    // ---- promise 21

    // Promise 21 (Terms 2): "A PLAN told by hand: what goes (0 a DAY,"
    private static void noRowAndTenDays() {
        AmberGrains x = Edges.tellers(0, 0, 0, 0);
        x.tell(0);
        x.put(1, 10, 3);
        Edges.due("no rows: FOUND", x.ends(0), 0);
        Edges.due("no rows: WITHIN", x.ends(1), 1);
        for (int k = 1; k <= 9; k++) {
            x.plan(0, 0);
        }
        Edges.due("nine DAYS", x.ends(0), 0);
        x.plan(0, 0);
        Edges.due("ten DAYS: FINDER is at 10", x.ends(0), 1);
        Edges.due("WITHIN", x.ends(1), 1);
        Edges.due("DAY", x.told(0), 0);
    }

    // Promise 21 (Terms 2): "1 one is TOLD, if it is SILENT,"
    private static void toldIfItIsSilent() {
        for (int state = 0; state <= 4; state++) {
            AmberGrains x = Edges.tellers(0, 0, 0);
            if (state == 1) {
                x.tell(0);
            } else if (state > 1) {
                x.put(0, 6, state);
            }
            x.plan(1, 0);
            Edges.due("WITHIN, from STATE " + state, x.ends(1), state < 2 ? 1 : 0);
            Edges.due("FOUND, from STATE " + state, x.ends(0), state == 4 ? 1 : 0);
            Edges.due("STATE is as it was", x.of(0, 3), state);
        }
        AmberGrains old = Edges.told(0, 0, 0);
        Edges.chart(old, "sour 31 a=5");
        old.pass(5);
        old.plan(1, 0);
        old.plan(0, 0);
        Edges.due("one WITHIN isn't told: AGE 5 brings it up", old.ends(1), 0);
    }

    // Promise 21 (Terms 2): "2 one is SILENT, AGE 0,"
    private static void silentFromEachState() {
        for (int state = 0; state <= 4; state++) {
            AmberGrains x = Edges.tellers(0, 0, 0, 0);
            x.tell(1);
            if (state == 1) {
                x.tell(0);
            } else if (state > 1) {
                x.put(0, 6, state);
            }
            x.plan(2, 0);
            Edges.due("WITHIN, from STATE " + state, x.ends(1), 2);
            Edges.due("FOUND, from STATE " + state, x.ends(0), 0);
            x.plan(1, 0);
            Edges.due("it can be told then", x.ends(1), 3);
        }
        AmberGrains old = Edges.told(0, 0, 0);
        Edges.chart(old, "sour 31 a=5");
        old.pass(5);
        old.plan(2, 0);
        old.plan(1, 0);
        for (int k = 0; k < 5; k++) {
            old.plan(0, 0);
        }
        Edges.due("AGE is 0 then: five DAYS go", old.ends(1), 1);
        old.plan(0, 0);
        Edges.due("and it is up with the sixth", old.ends(1), 0);
    }

    // Promise 21 (Terms 2): "3 FINDER is at PLACE n;"
    private static void finderIsAtEachPlace() {
        for (int place = 0; place <= 11; place++) {
            AmberGrains x = Edges.tellers(0, 0, 0, 0);
            x.put(0, place, 3);
            x.put(1, (place + 1) % 12, 3);
            x.sea(1, (place + 5) % 12);
            x.plan(3, place);
            Edges.due("none is FOUND by it", x.ends(0), 0);
            x.plan(0, 0);
            Edges.due("with a DAY the one behind it is", x.ends(0), 1);
            x.plan(3, (place + 11) % 12);
            x.plan(0, 0);
            Edges.due("and the one there from ahead of it", x.ends(0), 2);
            Edges.due("FINDER", x.told(3), (place + 5) % 12);
        }
    }

    // Promise 21 (Terms 2): "ENDS: how many are FOUND; which are WITHIN (bits)."
    private static void endsWithNoneAndWithAll() {
        AmberGrains x = Edges.tellers(0, 0, 0, 0, 0, 0, 0, 0);
        Edges.due("none", x.ends(1), 0);
        for (int p = 0; p < 6; p++) {
            x.plan(1, p);
            Edges.due("told to " + p, x.ends(1), (1 << p + 1) - 1);
        }
        for (int p = 0; p < 6; p++) {
            x.put(p, 3, 4);
        }
        Edges.due("all are FOUND", x.ends(0), 6);
        Edges.due("none WITHIN", x.ends(1), 0);
        Edges.due("without TELLERS", new AmberGrains().ends(0), 0);
    }

    // Promise 21 (Terms 2): "goes on from how all is (DAYS, AGE beyond 9999, too),"
    private static void endsBeyondTheLastDay() {
        AmberGrains x = Edges.told(0, 0, 0);
        Edges.pass(x, 9999);
        Edges.chart(x, "sour 31 a=1&d=1");
        x.plan(0, 0);
        x.plan(0, 0);
        Edges.due("DAY 10001 is not gone", x.ends(1), 1);
        x.plan(0, 0);
        Edges.due("it is up with DAY 10001", x.ends(1), 0);
    }

    // Promise 21: "ENDS: what 0 how many, 1 which (bits). NONE."
    private static void endsOfNoSuchWhat() {
        for (int what : Edges.outside(0, 1)) {
            Edges.changesNothing(Edges.BUSY, -1, "ends(" + what + ")", x -> x.ends(what));
        }
    }

    // Promise 21 (Answers): "what is asked changes nothing."
    private static void endsChangesNothing() {
        Edges.asks(Edges.BUSY, "ends(0)", x -> x.ends(0));
        Edges.asks(Edges.BUSY, "ends(1)", x -> x.ends(1));
        Edges.asks(Edges.FILLED, "ends(0)", x -> x.ends(0));
        Edges.asks(Edges.FILLED, "ends(1)", x -> x.ends(1));
    }

    // ---- promise 22

    // Promise 22: "A row comes to the BOOK: how many there are"
    private static void bookAtBothEnds() {
        AmberGrains x = Edges.tellers(0, 0, 0, 0, 0, 0, 0, 0);
        int[][] rows = {{0, 0}, {0, 11}, {5, 0}, {5, 11}, {5, 11}};
        for (int k = 0; k < rows.length; k++) {
            Edges.due("book(" + rows[k][0] + ", " + rows[k][1] + ")", x.book(rows[k][0], rows[k][1]), k + 1);
        }
        Edges.due("count(4)", x.count(4), rows.length);
    }

    // Promise 22: "(teller -1: it is empty then, 0, whatever the other is)."
    private static void bookIsEmptied() {
        for (int place : Edges.around(0, 11)) {
            AmberGrains x = Edges.filled();
            Edges.due("book(-1, " + place + ")", x.book(-1, place), 0);
            Edges.due("count(4)", x.count(4), 0);
            Edges.due("looked()", x.looked(), -5);
            Edges.due("there is room", x.book(0, 0), 1);
        }
        Edges.due("empty already", new AmberGrains().book(-1, 0), 0);
    }

    // Promise 22: "NONE: teller,"
    private static void bookOfNoSuchOne() {
        for (int p : new int[] {Edges.MIN, -3, -2, 5, 6, Edges.MAX}) {
            Edges.changesNothing(Edges.BUSY, -1, "book(" + p + ", 1)", x -> x.book(p, 1));
        }
        Edges.due("without TELLERS", new AmberGrains().book(0, 0), -1);
    }

    // Promise 22: "place;"
    private static void bookOfNoSuchPlace() {
        for (int place : Edges.outside(0, 11)) {
            Edges.changesNothing(Edges.BUSY, -1, "book(0, " + place + ")", x -> x.book(0, place));
        }
    }

    // Promise 22 (Terms 2): "A BOOK told by hand: TELLERS, PLACES (8 at most):"
    // Promise 22: "FULL: 8."
    private static void theNinthRowIsRefused() {
        AmberGrains x = Edges.tellers(0, 0, 0);
        for (int k = 1; k <= 8; k++) {
            Edges.due("book", x.book(0, k), k);
        }
        Edges.due("the ninth", x.book(0, 0), -4);
        Edges.changesNothing(Edges.FILLED, -4, "book(0, 0)", y -> y.book(0, 0));
        Edges.changesNothing(Edges.FILLED, -4, "book(5, 11)", y -> y.book(5, 11));
    }

    // Promise 22: "NONE: teller, place; FULL: 8."
    private static void bookRefusesInOrder() {
        AmberGrains full = Edges.filled();
        for (int p : new int[] {Edges.MIN, -2, 0, 5, 6, Edges.MAX}) {
            for (int place : Edges.around(0, 11)) {
                boolean there = Edges.in(p, 0, 5) && Edges.in(place, 0, 11);
                Edges.due("book(" + p + ", " + place + ") of eight", full.book(p, place), there ? -4 : -1);
            }
        }
        Edges.due("count(4)", full.count(4), 8);
    }

    // ---- promise 23

    // Promise 23 (Terms 2): "LOOKED at: the number of the first of these rows by which it is otherwise now (-5: none)."
    private static void lookedAtEachRow() {
        for (int other = 0; other < 8; other++) {
            AmberGrains x = Edges.tellers(0, 0, 0, 0);
            x.put(1, 11, 3);
            for (int k = 0; k < 8; k++) {
                x.book(k % 2, k == other ? 5 : 11 * (k % 2));
            }
            Edges.due("row " + other + " is otherwise", x.looked(), other);
            x.put(1 - other % 2, 6, 3);
            Edges.due("so is each of the other one", x.looked(), other % 2 == 0 ? Math.min(other, 1) : 0);
        }
        AmberGrains so = Edges.tellers(0, 0, 0, 0);
        so.put(1, 11, 3);
        for (int k = 0; k < 8; k++) {
            so.book(k % 2, 11 * (k % 2));
        }
        Edges.due("all eight are so", so.looked(), -5);
    }

    // Promise 23: "LOOKED at; -5."
    private static void lookedAtNoRow() {
        Edges.due("without TELLERS", new AmberGrains().looked(), -5);
        Edges.due("no rows", Edges.tellers(0, 0, 0).looked(), -5);
    }

    // Promise 23 (Terms 2): "by which it is otherwise now"
    private static void lookedAtNow() {
        AmberGrains x = Edges.tellers(0, 0, 0);
        x.put(0, 11, 2);
        x.book(0, 11);
        x.book(0, 0);
        Edges.due("it is at 11", x.looked(), 1);
        x.pass(1);
        Edges.due("it came to 0", x.looked(), 0);
    }

    // Promise 23 (Answers): "what is asked changes nothing."
    private static void lookedChangesNothing() {
        Edges.asks(Edges.BUSY, "looked()", x -> x.looked());
        Edges.asks(Edges.FILLED, "looked()", x -> x.looked());
    }

    // ---- promise 25

    private static AmberGrains imaged() {
        AmberGrains x = Edges.busy();
        x.image();
        return x;
    }

    // Promise 25: "THE IMAGE is taken: how many TELLERS there are."
    private static void imageOfNoneToSix() {
        AmberGrains x = new AmberGrains();
        for (int many = 0; many <= 6; many++) {
            Edges.due("image()", x.image(), many);
            x.teller(0, 0, 0);
            Edges.due("undo()", x.undo(), many);
            x.teller(0, 0, 0);
        }
    }

    // Promise 25: "THE IMAGE is taken:"
    private static void imageChangesNothingElse() {
        Edges.Made made = RowsEdgesTest::imaged;
        Edges.changesNothing(made, 5, "image() again", x -> x.image());
        Edges.changesNothing(made, 5, "undo() at once", x -> x.undo());
        AmberGrains x = Edges.busy();
        x.image();
        x.pass(1);
        Edges.due("the newer one is it", x.undo(), 5);
        Edges.due("DAY", x.told(0), 2);
    }

    // ---- promise 26

    // Promise 26 (Terms 2): "THE IMAGE: SHORE, CURRENTS, FINDER,"
    private static void theSeaComesBack() {
        for (int what = 0; what <= 5; what++) {
            AmberGrains x = new AmberGrains();
            int[] most = {4095, 11, 9, 9, 9, 9};
            x.sea(what, most[what]);
            x.image();
            x.sea(what, 0);
            x.undo();
            Edges.due("sea(" + what + ", 0)", x.sea(what, 0), most[what]);
        }
    }

    // Promise 26 (Terms 2): "TELLERS with all that is theirs,"
    private static void tellersComeBack() {
        AmberGrains x = Edges.tellers(0, 0, 0);
        x.teller(6, 9, 20);
        x.tell(1);
        x.pass(9);
        x.put(1, 11, 3);
        for (int part = 0; part < 4; part++) {
            x.row(1, part, 9 - part);
        }
        x.image();
        x.weigh(1, 0);
        x.put(1, 0, 2);
        for (int part = 0; part < 4; part++) {
            x.row(1, part, 0);
        }
        Edges.due("undo()", x.undo(), 2);
        int[] due = {6, 9, 20, 3, 9, 11};
        for (int what = 0; what < due.length; what++) {
            Edges.due("of(1, " + what + ")", x.of(1, what), due[what]);
        }
        for (int part = 0; part < 4; part++) {
            Edges.due("ROW", x.row(1, part, 0), 9 - part);
        }
    }

    // Promise 26 (Terms 2): "TELLERS with all that is theirs,"
    private static void tellersThatCameAreGone() {
        AmberGrains x = new AmberGrains();
        x.image();
        for (int p = 0; p < 6; p++) {
            x.teller(6, 9, 20);
            x.row(p, 2, 9);
            x.tell(p);
        }
        x.put(0, 11, 4);
        Edges.due("undo()", x.undo(), 0);
        Edges.due("of(0, 0)", x.of(0, 0), Edges.OUT);
        Edges.due("WITHIN", x.told(5), 0);
        Edges.due("FOUND", x.told(4), 0);
        Edges.due("the next is the first, and new", x.teller(6, 1, 2), 0);
        int[] due = {6, 1, 2, 0, 0, 0};
        for (int what = 0; what < due.length; what++) {
            Edges.due("of(0, " + what + ")", x.of(0, what), due[what]);
        }
        Edges.due("ROW", x.row(0, 2, 1), 0);
    }

    // Promise 26 (Terms 2): "DAY,"
    private static void theDayComesBack() {
        AmberGrains x = Edges.told(0, 0, 0);
        x.image();
        Edges.pass(x, 9999);
        Edges.due("no DAY more", x.pass(1), -3);
        x.undo();
        Edges.due("DAY", x.told(0), 0);
        Edges.due("AGE", x.of(0, 4), 0);
        Edges.due("DAYS go again", x.pass(60), 60);
    }

    // Promise 26 (Terms 2): "SEEN, the PLAN, the BOOK,"
    private static void theRowsComeBack() {
        AmberGrains x = Edges.filled();
        x.image();
        long seen = x.weights(1);
        long ends = x.ends(1);
        long looked = x.looked();
        x.see(-1, 0, 0);
        x.plan(-1, 0);
        x.book(-1, 0);
        x.undo();
        Edges.due("SEEN", x.count(2), 5);
        Edges.due("PLAN", x.count(3), 10);
        Edges.due("BOOK", x.count(4), 8);
        x.see(-1, 0, 0);
        x.plan(-1, 0);
        x.book(-1, 0);
        for (int k = 0; k < 8; k++) {
            x.see(0, 12, 4);
            x.plan(2, 0);
            x.book(5, 11);
        }
        x.undo();
        Edges.due("WEIGHTS by SEEN", x.weights(1), seen);
        Edges.due("ENDS by the PLAN", x.ends(1), ends);
        Edges.due("LOOKED by the BOOK", x.looked(), looked);
        AmberGrains none = Edges.tellers(0, 0, 0);
        none.image();
        none.see(0, 0, 1);
        none.plan(1, 0);
        none.book(0, 3);
        none.undo();
        for (int what = 2; what <= 4; what++) {
            Edges.due("none came back: count(" + what + ")", none.count(what), 0);
        }
    }

    // Promise 26 (Terms 2): "which SEA holds."
    private static void theSeaThatHeldHolds() {
        AmberGrains x = Edges.tellers(0, 0, 0);
        x.image();
        Edges.chart(x, "sour 9 p=0;room 7");
        x.undo();
        Edges.due("none held", x.told(1), 30);
        Edges.due("none held", x.of(0, 6), 0);
        Edges.due("SEAS stay", x.count(1), 1);
        Edges.due("the next number", Edges.chart(x, "room 8"), 1);
        x.image();
        for (int n = 2; n < 6; n++) {
            Edges.chart(x, "room 9");
        }
        x.undo();
        Edges.due("the second held", x.told(1), 8);
        x.feed('r');
        Edges.due("there are six all the same", x.chart(), -4);
    }

    // Promise 26 (Terms 2): "THE IMAGE: SHORE, CURRENTS, FINDER, TELLERS with all that is theirs, DAY, SEEN,"
    private static void whatIsNotInTheImageStays() {
        AmberGrains x = new AmberGrains();
        x.image();
        x.teller(0, 3, 0);
        x.feed('r');
        x.tape(5, 2, 60);
        x.item(5, 59, 7);
        x.act(0, 2, 5);
        Edges.due("undo()", x.undo(), 0);
        Edges.due("THE TEXT", x.count(5), 1);
        Edges.due("TAPES", x.read(5, 59), 7);
        Edges.due("bodies that ran", x.count(6), 3);
        Edges.due("THE TRACE", x.trace(2), 10);
    }

    // Promise 26: "All is as THE IMAGE: how many TELLERS."
    private static void theImageIsTakenBackAgainAndAgain() {
        AmberGrains x = Edges.tellers(0, 7, 6, 6);
        x.image();
        for (int times = 0; times < 3; times++) {
            x.weigh(0, 20);
            x.row(0, 0, 9);
            x.sea(2, 9);
            x.see(0, 0, 4);
            x.tell(1);
            x.pass(3);
            Edges.due("undo()", x.undo(), 2);
            Edges.due("WEIGHT", x.of(0, 2), 7);
            Edges.due("LOAD by ROW", x.of(0, 6), 7);
            Edges.due("CURRENT", x.told(10), 1);
            Edges.due("SEEN", x.count(2), 0);
            Edges.due("WITHIN", x.told(5), 0);
            Edges.due("DAY", x.told(0), 0);
        }
    }

    private static AmberGrains withoutImage() {
        AmberGrains x = Edges.told(3, 5, 0, 6);
        x.pass(3);
        x.plan(0, 0);
        return x;
    }

    // Promise 26: "STATE: there is none."
    private static void undoWithoutAnImage() {
        Edges.changesNothing(Edges.NEW, -3, "undo()", x -> x.undo());
        Edges.changesNothing(RowsEdgesTest::withoutImage, -3, "undo()", x -> x.undo());
    }
}
