/** Promises 1 to 4: a new object, term, bound, clear. */
public final class RulesTest {
    private static final Check CHECK = new Check();

    public static void main(String[] args) {
        newObject();
        termCounts();
        wrongTerms();
        boundCounts();
        wrongBounds();
        clearDropsRulesAlone();
        objectsAreApart();
        CHECK.end();
    }

    private static void newObject() {
        TraceProver x = new TraceProver();
        CHECK.due("new: prove()", x.prove(), TraceProver.BAD);
        CHECK.due("new: verify()", x.verify(), TraceProver.NONE);
        CHECK.due("new: wrong()", x.wrong(), TraceProver.NONE);
        for (int k = -1; k <= 3; k++) {
            CHECK.due("new: position", x.position(k), TraceProver.NONE);
        }
        for (int i = -1; i <= 179; i++) {
            CHECK.due("new: proof", x.proof(i), 0);
            CHECK.due("new: alter", x.alter(i, 5), false);
        }
        for (int c = 0; c < 2; c++) {
            for (int r = 0; r < 8; r++) {
                CHECK.due("new: cell", x.cell(c, r), 0);
            }
            for (int i = 0; i < 32; i++) {
                CHECK.due("new: at", x.at(c, i), 0);
            }
        }
        CHECK.due("new: term", x.term(1, 0, 0, 0), 1);
        CHECK.due("new: bound", x.bound(0, 0, 0), 1);
        CHECK.due("with rules, without proof: verify()", x.verify(), TraceProver.NONE);
    }

    private static void termCounts() {
        TraceProver x = new TraceProver();
        for (int n = 1; n <= 6; n++) {
            CHECK.due("term " + n + " of constraint 1", x.term(1, 12288, 4, n - 2 < 0 ? 0 : n - 2), n);
        }
        CHECK.due("term 7 of constraint 1", x.term(1, 0, 0, 0), TraceProver.FULL);
        for (int n = 1; n <= 6; n++) {
            CHECK.due("term " + n + " of constraint 0", x.term(0, 0, n - 2 < 0 ? 0 : n - 2, 4), n);
        }
        CHECK.due("term 7 of constraint 0", x.term(0, 0, 0, 0), TraceProver.FULL);
        CHECK.due("a bad term beyond the sixth", x.term(0, 12289, 0, 0), TraceProver.BAD);
        CHECK.due("the full constraints are kept", x.wrong(), TraceProver.NONE);
        x.set(1, 3, 1);
        CHECK.due("the last term counts", x.wrong() >= 0, true);
    }

    private static void wrongTerms() {
        TraceProver x = new TraceProver();
        for (int bad : new int[] {-1, 2, 3, Integer.MIN_VALUE, Integer.MAX_VALUE}) {
            CHECK.due("term of constraint " + bad, x.term(bad, 1, 0, 0), TraceProver.BAD);
        }
        for (int bad : new int[] {-1, 12289, 12290, Integer.MIN_VALUE, Integer.MAX_VALUE}) {
            CHECK.due("term with k " + bad, x.term(0, bad, 0, 0), TraceProver.BAD);
        }
        for (int bad : new int[] {-1, 5, 6, Integer.MIN_VALUE, Integer.MAX_VALUE}) {
            CHECK.due("term with u " + bad, x.term(0, 1, bad, 0), TraceProver.BAD);
            CHECK.due("term with v " + bad, x.term(0, 1, 0, bad), TraceProver.BAD);
        }
        CHECK.due("bad terms are no rules", x.prove(), TraceProver.BAD);
        CHECK.due("the first good term", x.term(0, 12288, 4, 4), 1);
    }

    private static void boundCounts() {
        TraceProver x = new TraceProver();
        CHECK.due("bound 1", x.bound(0, 0, 0), 1);
        CHECK.due("bound 2", x.bound(1, 7, 12288), 2);
        CHECK.due("bound 3, the same again", x.bound(1, 7, 12288), 3);
        CHECK.due("bound 4, against it", x.bound(1, 7, 5), 4);
        CHECK.due("bound 5", x.bound(0, 0, 0), TraceProver.FULL);
        CHECK.due("a bad bound beyond the fourth", x.bound(0, 8, 0), TraceProver.BAD);
        x.set(1, 7, 12288);
        CHECK.due("bounds against each other: wrong()", x.wrong(), 7);
    }

    private static void wrongBounds() {
        TraceProver x = new TraceProver();
        for (int bad : new int[] {-1, 2, Integer.MIN_VALUE, Integer.MAX_VALUE}) {
            CHECK.due("bound of column " + bad, x.bound(bad, 0, 0), TraceProver.BAD);
        }
        for (int bad : new int[] {-1, 8, 9, Integer.MIN_VALUE, Integer.MAX_VALUE}) {
            CHECK.due("bound of row " + bad, x.bound(0, bad, 0), TraceProver.BAD);
        }
        for (int bad : new int[] {-1, 12289, Integer.MIN_VALUE, Integer.MAX_VALUE}) {
            CHECK.due("bound with v " + bad, x.bound(0, 0, bad), TraceProver.BAD);
        }
        CHECK.due("bad bounds are no rules", x.prove(), TraceProver.BAD);
        CHECK.due("the first good bound", x.bound(1, 0, 0), 1);
    }

    private static void clearDropsRulesAlone() {
        TraceProver x = Samples.provedFibonacci();
        int[] row = Samples.proofOf(x);
        CHECK.due("before clear: verify()", x.verify(), 0);
        int place = x.position(1);
        x.clear();
        CHECK.due("clear: position", x.position(1), place);
        for (int i = 0; i < row.length; i++) {
            CHECK.due("clear: the proof stays", x.proof(i), row[i]);
        }
        CHECK.due("clear: the table stays", x.cell(1, 7), 34);
        CHECK.due("clear: the table stays", x.cell(0, 0), 1);
        CHECK.due("clear: prove()", x.prove(), TraceProver.BAD);
        CHECK.due("clear: verify()", x.verify(), TraceProver.BAD);
        x.set(0, 3, 9);
        CHECK.due("clear: wrong()", x.wrong(), TraceProver.NONE);
        CHECK.due("clear: the first term of 0", x.term(0, 0, 0, 0), 1);
        x.clear();
        CHECK.due("clear: the first term of 1", x.term(1, 0, 0, 0), 1);
        x.clear();
        CHECK.due("clear: the first bound", x.bound(0, 0, 1), 1);
        CHECK.due("clear: a bound alone is proved", x.prove(), 0);
        CHECK.due("clear: a bound alone is verified", x.verify(), 0);
        x.clear();
        x.clear();
        CHECK.due("clear twice: verify()", x.verify(), TraceProver.BAD);
    }

    private static void objectsAreApart() {
        TraceProver first = Samples.provedFibonacci();
        TraceProver second = new TraceProver();
        CHECK.due("a second object has no rules", second.prove(), TraceProver.BAD);
        CHECK.due("a second object has a table of its own", second.cell(1, 7), 0);
        second.bound(0, 0, 0);
        second.prove();
        CHECK.due("the first object's proof stays", first.verify(), 0);
    }
}
