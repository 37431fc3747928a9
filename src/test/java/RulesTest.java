/** Promises 1 to 4: a new object, term, bound, clear; a test for each sentence that names a case. */
public final class RulesTest {
    private static final Check CHECK = new Check();
    /** Least and greatest k and letters; with -1 in all of column 1 they sum up to 0. */
    private static final int[][] SIX_TERMS = {{0, 0, 0}, {12288, 4, 4}, {1, 0, 0}, {12288, 0, 4}, {12288, 0, 0}, {0, 4, 0}};

    public static void main(String[] args) {
        CHECK.run(
            RulesTest::newObjectHasNoRules,
            RulesTest::newObjectHasNoProof,
            RulesTest::newObjectsAreApart,
            RulesTest::termsAreAppended,
            RulesTest::termOfNoConstraint,
            RulesTest::termWithKOutside,
            RulesTest::termWithALetterOutside,
            RulesTest::termBeyondTheSixth,
            RulesTest::badTermBeyondTheSixth,
            RulesTest::boundsAreAppended,
            RulesTest::boundOfNoColumn,
            RulesTest::boundOfNoRow,
            RulesTest::boundWithVOutside,
            RulesTest::boundBeyondTheFourth,
            RulesTest::badBoundBeyondTheFourth,
            RulesTest::clearLeavesNoRules,
            RulesTest::clearOfFullRulesMakesRoom,
            RulesTest::clearOfNoRules,
            RulesTest::clearKeepsTheTable,
            RulesTest::clearKeepsTheProof,
            RulesTest::clearMakesNoProof);
        CHECK.end();
    }

    private static void newObjectHasNoRules() {
        CHECK.sentence("Promise 1", "There are no rules");
        TraceProver x = new TraceProver();
        CHECK.due("prove()", x.prove(), TraceProver.BAD);
        CHECK.due("wrong()", x.wrong(), TraceProver.NONE);
        x.set(0, 0, 1);
        x.set(1, 7, 12288);
        CHECK.due("wrong() with cells that are not 0", x.wrong(), TraceProver.NONE);
        CHECK.due("the first term of constraint 1", x.term(1, 0, 0, 0), 1);
        CHECK.due("the first term of constraint 0", x.term(0, 0, 0, 0), 1);
        CHECK.due("the first bound", x.bound(0, 0, 1), 1);
    }

    private static void newObjectHasNoProof() {
        CHECK.sentence("Promise 1", "there is no proof");
        TraceProver x = new TraceProver();
        CHECK.due("verify()", x.verify(), TraceProver.NONE);
        CHECK.dueNoPositions("new", x);
        for (int i = 0; i < Model.LENGTH; i++) {
            CHECK.due("alter(" + i + ", 5)", x.alter(i, 5), false);
            CHECK.due("proof(" + i + ")", x.proof(i), 0);
        }
        x.bound(0, 0, 0);
        CHECK.due("verify() with a rule", x.verify(), TraceProver.NONE);
        CHECK.due("alter(0, 5) with a rule", x.alter(0, 5), false);
    }

    private static void newObjectsAreApart() {
        CHECK.sentence("Promise 1", "There are no rules and there is no proof");
        TraceProver first = Samples.provedFibonacci();
        TraceProver second = new TraceProver();
        CHECK.due("prove() beside an object with rules", second.prove(), TraceProver.BAD);
        CHECK.due("verify() beside an object with a proof", second.verify(), TraceProver.NONE);
        CHECK.due("cell(1, 7) beside an object with a table", second.cell(1, 7), 0);
        second.bound(0, 0, 0);
        second.prove();
        CHECK.due("verify() of the first object", first.verify(), 0);
        CHECK.dueProof("the first object", first, Samples.fibonacciProof());
    }

    private static void termsAreAppended() {
        CHECK.sentence("Promise 2", "Appends a term to constraint c: how many it has then");
        Twin twin = new Twin(CHECK, "six terms each");
        twin.setRows(5, 12288);
        for (int n = 0; n < 6; n++) {
            for (int c = 1; c >= 0; c--) {
                int[] t = SIX_TERMS[(n + 2 * c) % 6];
                CHECK.due("term " + (n + 1) + " of constraint " + c, twin.term(c, t[0], t[1], t[2]), n + 1);
            }
        }
        CHECK.due("six terms each: wrong()", twin.wrong(), TraceProver.NONE);
        CHECK.due("six terms each: prove()", twin.prove(), 0);
        CHECK.due("six terms each: verify()", twin.verify(), 0);
    }

    private static void termOfNoConstraint() {
        CHECK.sentence("Promise 2", "BAD when c is not 0 or 1");
        TraceProver x = Samples.fibonacci();
        for (int bad : Outside.COLUMNS) {
            CHECK.due("term(" + bad + ", 1, 0, 0)", x.term(bad, 1, 0, 0), TraceProver.BAD);
        }
        dueFibonacciRules(x);
    }

    private static void termWithKOutside() {
        CHECK.sentence("Promise 2", "k not 0 .. 12288");
        TraceProver x = Samples.fibonacci();
        for (int bad : Outside.FIELD) {
            CHECK.due("term(0, " + bad + ", 0, 0)", x.term(0, bad, 0, 0), TraceProver.BAD);
            CHECK.due("term(1, " + bad + ", 4, 4)", x.term(1, bad, 4, 4), TraceProver.BAD);
        }
        dueFibonacciRules(x);
        TraceProver y = new TraceProver();
        CHECK.due("the least k", y.term(0, 0, 1, 1), 1);
        CHECK.due("the greatest k", y.term(0, 12288, 1, 1), 2);
    }

    private static void termWithALetterOutside() {
        CHECK.sentence("Promise 2", "or u or v not 0 .. 4");
        TraceProver x = Samples.fibonacci();
        for (int bad : Outside.LETTERS) {
            CHECK.due("term(0, 1, " + bad + ", 0)", x.term(0, 1, bad, 0), TraceProver.BAD);
            CHECK.due("term(0, 1, 4, " + bad + ")", x.term(0, 1, 4, bad), TraceProver.BAD);
            CHECK.due("term(1, 1, " + bad + ", 4)", x.term(1, 1, bad, 4), TraceProver.BAD);
            CHECK.due("term(1, 1, 0, " + bad + ")", x.term(1, 1, 0, bad), TraceProver.BAD);
        }
        dueFibonacciRules(x);
        TraceProver y = new TraceProver();
        CHECK.due("the least letters", y.term(1, 1, 0, 0), 1);
        CHECK.due("the greatest letters", y.term(1, 1, 4, 4), 2);
    }

    private static void termBeyondTheSixth() {
        CHECK.sentence("Promise 2", "FULL when it has 6");
        for (int c = 0; c < 2; c++) {
            TraceProver x = withSixTerms(c);
            CHECK.due("a seventh term of constraint " + c, x.term(c, 1, 0, 0), TraceProver.FULL);
            CHECK.due("the greatest seventh term", x.term(c, 12288, 4, 4), TraceProver.FULL);
            CHECK.due("a seventh term that asks nothing", x.term(c, 0, 0, 0), TraceProver.FULL);
            CHECK.due("constraint " + c + " full: wrong()", x.wrong(), TraceProver.NONE);
            CHECK.due("constraint " + c + " full: prove()", x.prove(), 0);
            TraceProver six = withSixTerms(c);
            six.prove();
            CHECK.dueProof("constraint " + c + " full", x, Samples.proofOf(six));
            CHECK.due("the other constraint has room", x.term(1 - c, 1, 1, 1), 1);
            CHECK.due("bounds have room", x.bound(0, 0, 0), 1);
        }
    }

    private static void badTermBeyondTheSixth() {
        CHECK.sentence("Promise 2", "BAD when c is not 0 or 1, k not 0 .. 12288, or u or v not 0 .. 4; FULL when it has 6");
        TraceProver x = withSixTerms(0);
        CHECK.due("a bad k beyond the sixth", x.term(0, 12289, 0, 0), TraceProver.BAD);
        CHECK.due("a bad u beyond the sixth", x.term(0, 0, 5, 0), TraceProver.BAD);
        CHECK.due("a bad v beyond the sixth", x.term(0, 0, 0, -1), TraceProver.BAD);
        for (int n = 0; n < 6; n++) {
            x.term(1, 0, 0, 0);
        }
        CHECK.due("constraint 2 with both full", x.term(2, 0, 0, 0), TraceProver.BAD);
        CHECK.due("constraint -1 with both full", x.term(-1, 0, 0, 0), TraceProver.BAD);
    }

    private static void boundsAreAppended() {
        CHECK.sentence("Promise 3", "Appends a bound: how many there are then");
        Twin twin = new Twin(CHECK, "four bounds");
        twin.set(1, 7, 12288);
        CHECK.due("bound 1, the least", twin.bound(0, 0, 0), 1);
        CHECK.due("bound 2, the greatest", twin.bound(1, 7, 12288), 2);
        CHECK.due("bound 3, the same again", twin.bound(1, 7, 12288), 3);
        CHECK.due("three bounds: prove()", twin.prove(), 0);
        CHECK.due("three bounds: verify()", twin.verify(), 0);
        CHECK.due("bound 4, against bound 3", twin.bound(1, 7, 12287), 4);
        CHECK.due("four bounds: wrong()", twin.wrong(), 7);
    }

    private static void boundOfNoColumn() {
        CHECK.sentence("Promise 3", "BAD when c is not 0 or 1");
        TraceProver x = Samples.fibonacci();
        for (int bad : Outside.COLUMNS) {
            CHECK.due("bound(" + bad + ", 0, 5)", x.bound(bad, 0, 5), TraceProver.BAD);
            CHECK.due("bound(" + bad + ", 7, 5)", x.bound(bad, 7, 5), TraceProver.BAD);
        }
        dueFibonacciRules(x);
    }

    private static void boundOfNoRow() {
        CHECK.sentence("Promise 3", "r not 0 .. 7");
        TraceProver x = Samples.fibonacci();
        for (int bad : Outside.ROWS) {
            CHECK.due("bound(0, " + bad + ", 5)", x.bound(0, bad, 5), TraceProver.BAD);
            CHECK.due("bound(1, " + bad + ", 5)", x.bound(1, bad, 5), TraceProver.BAD);
        }
        dueFibonacciRules(x);
        for (int r = 0; r < 8; r++) {
            CHECK.due("bound(1, " + r + ", 0)", new TraceProver().bound(1, r, 0), 1);
        }
    }

    private static void boundWithVOutside() {
        CHECK.sentence("Promise 3", "v not 0 .. 12288");
        TraceProver x = Samples.fibonacci();
        for (int bad : Outside.FIELD) {
            CHECK.due("bound(0, 0, " + bad + ")", x.bound(0, 0, bad), TraceProver.BAD);
            CHECK.due("bound(1, 7, " + bad + ")", x.bound(1, 7, bad), TraceProver.BAD);
        }
        dueFibonacciRules(x);
        TraceProver y = new TraceProver();
        CHECK.due("the least v", y.bound(0, 3, 0), 1);
        CHECK.due("the greatest v", y.bound(0, 3, 12288), 2);
    }

    private static void boundBeyondTheFourth() {
        CHECK.sentence("Promise 3", "FULL when there are 4");
        TraceProver x = withFourBounds();
        CHECK.due("a fifth bound of column 0", x.bound(0, 0, 0), TraceProver.FULL);
        CHECK.due("a fifth bound of column 1", x.bound(1, 7, 12288), TraceProver.FULL);
        CHECK.due("a fifth bound that is met", x.bound(0, 0, 1), TraceProver.FULL);
        CHECK.due("bounds full: wrong()", x.wrong(), TraceProver.NONE);
        CHECK.due("bounds full: prove()", x.prove(), 0);
        TraceProver four = withFourBounds();
        four.prove();
        CHECK.dueProof("bounds full", x, Samples.proofOf(four));
        CHECK.due("constraint 0 has room", x.term(0, 1, 1, 1), 1);
        CHECK.due("constraint 1 has room", x.term(1, 1, 1, 1), 1);
    }

    private static void badBoundBeyondTheFourth() {
        CHECK.sentence("Promise 3", "BAD when c is not 0 or 1, r not 0 .. 7, v not 0 .. 12288; FULL when there are 4");
        TraceProver x = withFourBounds();
        CHECK.due("a bad c beyond the fourth", x.bound(2, 0, 0), TraceProver.BAD);
        CHECK.due("a bad r beyond the fourth", x.bound(0, 8, 0), TraceProver.BAD);
        CHECK.due("a bad v beyond the fourth", x.bound(0, 0, -1), TraceProver.BAD);
    }

    private static void clearLeavesNoRules() {
        CHECK.sentence("Promise 4", "There are no rules");
        TraceProver x = Samples.provedFibonacci();
        x.clear();
        CHECK.due("prove()", x.prove(), TraceProver.BAD);
        CHECK.due("verify()", x.verify(), TraceProver.BAD);
        x.set(0, 0, 9);
        x.set(1, 3, 9);
        x.set(1, 7, 9);
        CHECK.due("wrong() of a table that the rules refused", x.wrong(), TraceProver.NONE);
        CHECK.due("the first term of constraint 1", x.term(1, 0, 4, 4), 1);
        CHECK.due("prove() by that term alone", x.prove(), 0);
        TraceProver fresh = copyOfTable(x);
        fresh.term(1, 0, 4, 4);
        fresh.prove();
        CHECK.dueProof("as on a new object", x, Samples.proofOf(fresh));
        x.clear();
        CHECK.due("the first bound", x.bound(1, 7, 9), 1);
        CHECK.due("verify() by another rule", x.verify() > 1, true);
        CHECK.due("prove() by that bound alone", x.prove(), 0);
        CHECK.due("verify() by that bound alone", x.verify(), 0);
    }

    private static void clearOfFullRulesMakesRoom() {
        CHECK.sentence("Promise 4", "There are no rules (when they were full)");
        TraceProver x = new TraceProver();
        for (int round = 0; round < 3; round++) {
            for (int n = 1; n <= 6; n++) {
                CHECK.due("round " + round + ": term " + n + " of 0", x.term(0, 1, 0, 0), n);
                CHECK.due("round " + round + ": term " + n + " of 1", x.term(1, 1, 0, 0), n);
            }
            for (int n = 1; n <= 4; n++) {
                CHECK.due("round " + round + ": bound " + n, x.bound(0, 0, 1), n);
            }
            CHECK.due("round " + round + ": a seventh term of 0", x.term(0, 1, 0, 0), TraceProver.FULL);
            CHECK.due("round " + round + ": a seventh term of 1", x.term(1, 1, 0, 0), TraceProver.FULL);
            CHECK.due("round " + round + ": a fifth bound", x.bound(0, 0, 1), TraceProver.FULL);
            CHECK.due("round " + round + ": prove()", x.prove(), -10);
            x.clear();
            CHECK.due("round " + round + ": wrong() behind clear()", x.wrong(), TraceProver.NONE);
            CHECK.due("round " + round + ": prove() behind clear()", x.prove(), TraceProver.BAD);
        }
    }

    private static void clearOfNoRules() {
        CHECK.sentence("Promise 4", "There are no rules (when there were none)");
        TraceProver x = new TraceProver();
        x.clear();
        x.clear();
        CHECK.due("prove()", x.prove(), TraceProver.BAD);
        CHECK.due("the first term", x.term(0, 0, 0, 0), 1);
        CHECK.due("prove() by it", x.prove(), 0);
    }

    private static void clearKeepsTheTable() {
        CHECK.sentence("Promise 4", "(table and proof stay): the table");
        TraceProver x = Samples.fibonacci();
        TraceProver kept = Samples.fibonacci();
        x.clear();
        for (int c = 0; c < 2; c++) {
            for (int r = 0; r < 8; r++) {
                CHECK.due("cell(" + c + ", " + r + ")", x.cell(c, r), kept.cell(c, r));
            }
            for (int i = 0; i < 32; i++) {
                CHECK.due("at(" + c + ", " + i + ")", x.at(c, i), kept.at(c, i));
            }
        }
    }

    private static void clearKeepsTheProof() {
        CHECK.sentence("Promise 4", "(table and proof stay): the proof");
        TraceProver x = Samples.provedFibonacci();
        int[] row = Samples.fibonacciProof();
        CHECK.due("verify() before", x.verify(), 0);
        x.alter(178, -5);
        row[178] = -5;
        x.clear();
        CHECK.dueProof("behind clear()", x, row);
        CHECK.due("alter(0, 7) behind clear()", x.alter(0, 7), true);
        CHECK.due("proof(0) behind it", x.proof(0), 7);
        CHECK.duePositions("clear() is no verify()", x, 8, 5, 4);
        TraceProver y = Samples.provedFibonacci();
        y.clear();
        Samples.fibonacciRules(y);
        CHECK.due("verify() with the same rules again", y.verify(), 0);
    }

    private static void clearMakesNoProof() {
        CHECK.sentence("Promise 4", "(table and proof stay): where there is no proof");
        TraceProver x = Samples.fibonacci();
        x.clear();
        CHECK.due("verify()", x.verify(), TraceProver.NONE);
        CHECK.due("alter(0, 1)", x.alter(0, 1), false);
    }

    /** Terms that ask nothing. The cells differ, so that a proof by other terms opens other places and differs too. */
    private static TraceProver withSixTerms(int c) {
        TraceProver x = withCells();
        for (int n = 0; n < 6; n++) {
            x.term(c, 0, n % 5, 4);
        }
        return x;
    }

    private static TraceProver withFourBounds() {
        TraceProver x = withCells();
        for (int n = 0; n < 4; n++) {
            x.bound(n % 2, 2 * n, x.cell(n % 2, 2 * n));
        }
        return x;
    }

    private static TraceProver withCells() {
        TraceProver x = new TraceProver();
        for (int r = 0; r < 8; r++) {
            x.set(0, r, 1000 * r + 1);
            x.set(1, r, 12288 - r * r);
        }
        return x;
    }

    private static TraceProver copyOfTable(TraceProver from) {
        TraceProver x = new TraceProver();
        for (int r = 0; r < 8; r++) {
            x.set(0, r, from.cell(0, r));
            x.set(1, r, from.cell(1, r));
        }
        return x;
    }

    /** A refused rule is none: the talk is told every rule, so another one would show in the proof. */
    private static void dueFibonacciRules(TraceProver x) {
        CHECK.due("prove() behind what was refused", x.prove(), 0);
        CHECK.dueProof("behind what was refused", x, Samples.fibonacciProof());
        CHECK.due("the next term of constraint 0", x.term(0, 0, 0, 0), 3);
        CHECK.due("the next term of constraint 1", x.term(1, 0, 0, 0), 4);
        CHECK.due("the next bound", x.bound(0, 0, 1), 3);
    }
}
