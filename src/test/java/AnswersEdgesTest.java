import java.util.ArrayList;
import java.util.List;

/** What the paragraph "Answers" says of all calls: the numbers, which comes first, and that nothing is changed. */
public final class AnswersEdgesTest {
    public static void main(String[] args) {
        Edges.run(AnswersEdgesTest.class);
    }

    // Promise 2 (Answers): "NONE (-1) no such number; BAD (-2) a number is not as told; STATE (-3) as told; FULL (-4);"
    private static void theNumbersOfTheAnswers() {
        Edges.due("NONE", AmberGrains.NONE, -1);
        Edges.due("BAD", AmberGrains.BAD, -2);
        Edges.due("STATE", AmberGrains.STATE, -3);
        Edges.due("FULL", AmberGrains.FULL, -4);
        Edges.due("NONE of a call", Edges.filled().teller(7, 0, 0), AmberGrains.NONE);
        Edges.due("BAD of a call", Edges.filled().teller(0, 10, 0), AmberGrains.BAD);
        Edges.due("STATE of a call", Edges.filled().tell(0), AmberGrains.STATE);
        Edges.due("FULL of a call", Edges.filled().teller(0, 0, 0), AmberGrains.FULL);
    }

    // Promise 19 (Terms 2): "(NO: there are none)."
    private static void theNumberThatIsNone() {
        Edges.due("NO", AmberGrains.NO, Long.MIN_VALUE);
        Edges.due("NO of a call", new AmberGrains().mean(0), AmberGrains.NO);
    }

    /** Of each call that can refuse: arguments wrong in more than one way, and the first that its words name. */
    private static List<long[]> refusals(AmberGrains x) {
        List<long[]> all = new ArrayList<>();
        all.add(new long[] {x.teller(7, 10, 21), -1});
        all.add(new long[] {x.teller(0, 10, 21), -2});
        all.add(new long[] {x.of(9, 9), Edges.OUT});
        all.add(new long[] {x.tell(9), -1});
        all.add(new long[] {x.weigh(9, 99), -1});
        all.add(new long[] {x.put(9, 99, 99), -1});
        all.add(new long[] {x.put(0, 99, 99), -1});
        all.add(new long[] {x.sea(9, -9), -1});
        all.add(new long[] {x.row(9, 9, 99), -1});
        all.add(new long[] {x.row(1, 9, 99), -1});
        all.add(new long[] {x.row(1, 0, 99), -2});
        all.add(new long[] {x.row(1, 0, 9), -3});
        all.add(new long[] {x.feed(999), -2});
        all.add(new long[] {x.told(99), Edges.OUT});
        all.add(new long[] {x.pass(99), -2});
        all.add(new long[] {x.on(99, 99), -1});
        all.add(new long[] {x.on(99, 0), -2});
        all.add(new long[] {x.begin(99, 99), -1});
        all.add(new long[] {x.begin(99, 0), -2});
        all.add(new long[] {x.see(9, 99, 99), -1});
        all.add(new long[] {x.see(0, 99, 99), -2});
        all.add(new long[] {x.weights(9), -1});
        all.add(new long[] {x.can(9, 99), -1});
        all.add(new long[] {x.odds(9, 99, 99), Edges.NO});
        all.add(new long[] {x.mean(99), Edges.NO});
        all.add(new long[] {x.plan(9, 99), -1});
        all.add(new long[] {x.ends(99), -1});
        all.add(new long[] {x.book(9, 99), -1});
        all.add(new long[] {x.judge(9, -9), -1});
        all.add(new long[] {x.trace(99), -1});
        all.add(new long[] {x.taken(9, 99), -2});
        all.add(new long[] {x.taken(9, 0), -11});
        all.add(new long[] {x.count(99), -2});
        all.add(new long[] {x.tape(9, 99, 99), -1});
        all.add(new long[] {x.tape(0, 99, -9), -2});
        all.add(new long[] {x.tape(0, 0, -9), -14});
        all.add(new long[] {x.item(9, 99, 9), -1});
        all.add(new long[] {x.item(0, 99, 9), -13});
        all.add(new long[] {x.read(9, 99), Edges.NO});
        all.add(new long[] {x.shift(9, -9, 9, -9, -9), -1});
        all.add(new long[] {x.shift(0, -9, 5, -9, -9), -11});
        return all;
    }

    // Promise 2 (Answers): "the first that a call's words name."
    private static void theFirstThatTheWordsName() {
        List<long[]> all = refusals(Edges.busy());
        for (int k = 0; k < all.size(); k++) {
            Edges.due("refusal " + k, all.get(k)[0], all.get(k)[1]);
        }
    }

    // Promise 2 (Answers): "What is answered so changes nothing;"
    private static void manyRefusalsChangeNothing() {
        Edges.changesNothing(Edges.BUSY, 41, "one refusal behind another", x -> refusals(x).size());
    }
}
