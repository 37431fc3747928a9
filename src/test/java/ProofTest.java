/** Promises 9 to 11: prove, proof, alter; a test for each sentence that names a case. */
public final class ProofTest {
    private static final Check CHECK = new Check();

    public static void main(String[] args) {
        CHECK.run(
            ProofTest::proveKnownProofs,
            ProofTest::proveAgain,
            ProofTest::proveOtherThings,
            ProofTest::proveByEachKindOfRules,
            ProofTest::proveTheHighestDegree,
            ProofTest::proveWithoutRules,
            ProofTest::proveWithAWrongRow,
            ProofTest::proveWithSeveralWrongRows,
            ProofTest::refusedProveKeepsTheProof,
            ProofTest::refusedProveMakesNoProof,
            ProofTest::proofIsTheRow,
            ProofTest::proofWhereThereIsNone,
            ProofTest::proofOfNoPlace,
            ProofTest::alterChangesOneInt,
            ProofTest::alterWhereThereIsNoProof,
            ProofTest::alterOfNoPlace);
        CHECK.end();
    }

    private static void proveKnownProofs() {
        CHECK.sentence("Promise 9", "Makes the proof from rules and table: 0");
        TraceProver x = Samples.fibonacci();
        CHECK.due("prove()", x.prove(), 0);
        CHECK.due("proof(0)", x.proof(0), 195286276);
        CHECK.due("proof(1)", x.proof(1), -178379704);
        CHECK.due("proof(4)", x.proof(4), 8775);
        CHECK.due("proof(5)", x.proof(5), 9947);
        CHECK.due("proof(178)", x.proof(178), 634679881);
        TraceProver zeros = new TraceProver();
        zeros.bound(1, 2, 0);
        CHECK.due("a table of zeros: prove()", zeros.prove(), 0);
        CHECK.due("the rest of zeros", zeros.proof(4), 0);
        CHECK.due("layer 0 of zeros", zeros.proof(33), 0);
    }

    private static void proveAgain() {
        CHECK.sentence("Promise 9", "Makes the proof from rules and table (once more, over an altered one)");
        TraceProver x = Samples.provedFibonacci();
        int[] row = Samples.fibonacciProof();
        for (int i = 0; i < row.length; i++) {
            x.alter(i, 12345 + i);
        }
        CHECK.due("prove()", x.prove(), 0);
        CHECK.dueProof("made again", x, row);
    }

    private static void proveOtherThings() {
        CHECK.sentence("Promise 9", "Makes the proof from rules and table (of other ones than before)");
        TraceProver x = Samples.provedFibonacci();
        x.clear();
        TraceProver fresh = new TraceProver();
        for (TraceProver each : new TraceProver[] {x, fresh}) {
            for (int r = 0; r < 8; r++) {
                each.set(0, r, 0);
                each.set(1, r, 12288 - r);
            }
            each.term(1, 5, 3, 2);
            CHECK.due("prove()", each.prove(), 0);
        }
        CHECK.dueProof("as on a new object", x, Samples.proofOf(fresh));
    }

    /** Constraints 0, 1, both or none, with and without bounds, up to as many rules as there can be. */
    private static void proveByEachKindOfRules() {
        CHECK.sentence("Promise 9", "Makes the proof from rules and table (by each kind of rules)");
        for (int kind = 1; kind < 8; kind++) {
            Twin twin = new Twin(CHECK, "kind " + kind);
            for (int r = 0; r < 8; r++) {
                twin.set(0, r, 12288);
                twin.set(1, r, 3 + r);
            }
            for (int[] t : Samples.FULL_TERMS) {
                if ((kind >> t[0] & 1) == 1) {
                    twin.term(t[0], t[1], t[2], t[3]);
                }
            }
            for (int[] b : Samples.FULL_BOUNDS) {
                if (kind >= 4) {
                    twin.bound(b[0], b[1], b[2]);
                }
            }
            CHECK.due("kind " + kind + ": prove()", twin.prove(), 0);
            CHECK.due("kind " + kind + ": verify()", twin.verify(), 0);
        }
    }

    private static void proveTheHighestDegree() {
        CHECK.sentence("Promise 9", "Makes the proof from rules and table (with products of two columns)");
        Twin twin = new Twin(CHECK, "squares");
        long a = 3;
        for (int r = 0; r < 8; r++) {
            twin.set(0, r, (int) a);
            twin.set(1, r, 12288 - r);
            a = a * a % Model.P * 12288 % Model.P;
        }
        twin.term(0, 12288, 1, 1);
        twin.term(0, 12288, 3, 0);
        CHECK.due("squares: prove()", twin.prove(), 0);
        CHECK.due("squares: verify()", twin.verify(), 0);
    }

    private static void proveWithoutRules() {
        CHECK.sentence("Promise 9", "BAD when there are no rules at all");
        CHECK.due("a new object: prove()", new TraceProver().prove(), TraceProver.BAD);
        TraceProver x = new TraceProver();
        x.term(0, -1, 0, 0);
        x.term(2, 0, 0, 0);
        x.bound(0, 8, 0);
        CHECK.due("refused rules alone: prove()", x.prove(), TraceProver.BAD);
        x.set(0, 0, 5);
        CHECK.due("a table alone: prove()", x.prove(), TraceProver.BAD);
        x.term(1, 0, 0, 0);
        CHECK.due("a term of constraint 1 alone: prove()", x.prove(), 0);
        x.clear();
        CHECK.due("behind clear(): prove()", x.prove(), TraceProver.BAD);
        x.term(0, 0, 0, 0);
        CHECK.due("a term of constraint 0 alone: prove()", x.prove(), 0);
        x.clear();
        x.bound(0, 0, 5);
        CHECK.due("a bound alone: prove()", x.prove(), 0);
    }

    private static void proveWithAWrongRow() {
        CHECK.sentence("Promise 9", "-10 - r when row r is the least that is wrong");
        for (int r = 0; r < 8; r++) {
            TraceProver x = new TraceProver();
            x.bound(0, r, 1);
            CHECK.due("a bound of row " + r + ": prove()", x.prove(), -10 - r);
        }
        for (int r = 0; r < 7; r++) {
            TraceProver x = new TraceProver();
            x.term(r % 2, 1, 1, 1);
            x.set(0, r, 12288);
            CHECK.due("a constraint in row " + r + ": prove()", x.prove(), -10 - r);
        }
        TraceProver last = new TraceProver();
        last.term(0, 1, 1, 1);
        last.set(0, 7, 12288);
        CHECK.due("a constraint in row 7: prove()", last.prove(), 0);
    }

    private static void proveWithSeveralWrongRows() {
        CHECK.sentence("Promise 9", "the least that is wrong");
        TraceProver x = new TraceProver();
        x.bound(1, 7, 1);
        x.bound(1, 6, 1);
        CHECK.due("rows 6 and 7: prove()", x.prove(), -16);
        x.bound(0, 1, 1);
        CHECK.due("and row 1: prove()", x.prove(), -11);
        x.term(0, 1, 0, 0);
        CHECK.due("and all rows: prove()", x.prove(), -10);
    }

    private static void refusedProveKeepsTheProof() {
        CHECK.sentence("Promise 9", "(The proof from before stays then.)");
        TraceProver x = Samples.provedFibonacci();
        int[] row = Samples.fibonacciProof();
        x.alter(50, -77);
        row[50] = -77;
        x.set(0, 5, 0);
        CHECK.due("prove() with a wrong row", x.prove(), -14);
        CHECK.dueProof("behind -14", x, row);
        x.clear();
        CHECK.due("prove() without rules", x.prove(), TraceProver.BAD);
        CHECK.dueProof("behind BAD", x, row);
        CHECK.due("alter(0, 1)", x.alter(0, 1), true);
        TraceProver y = Samples.provedFibonacci();
        y.bound(0, 7, 0);
        CHECK.due("prove() with a wrong row 7", y.prove(), -17);
        y.clear();
        Samples.fibonacciRules(y);
        CHECK.due("verify() of the proof from before", y.verify(), 0);
    }

    private static void refusedProveMakesNoProof() {
        CHECK.sentence("Promise 9", "(The proof from before stays then.): where there was none");
        TraceProver x = new TraceProver();
        CHECK.due("prove() without rules", x.prove(), TraceProver.BAD);
        CHECK.due("verify()", x.verify(), TraceProver.NONE);
        x.bound(1, 7, 1);
        CHECK.due("prove() with a wrong row", x.prove(), -17);
        CHECK.due("verify()", x.verify(), TraceProver.NONE);
        CHECK.due("alter(178, 1)", x.alter(178, 1), false);
        CHECK.dueProof("no proof", x, new int[Model.LENGTH]);
    }

    private static void proofIsTheRow() {
        CHECK.sentence("Promise 10", "Int i of the proof");
        TraceProver x = Samples.provedFibonacci();
        Model model = Samples.fibonacciModel();
        for (int i = 0; i < Model.LENGTH; i++) {
            CHECK.due("proof(" + i + ")", x.proof(i), model.proof(i));
        }
        CHECK.due("the first int", x.proof(0), 195286276);
        CHECK.due("the last int", x.proof(178), 634679881);
    }

    private static void proofWhereThereIsNone() {
        CHECK.sentence("Promise 10", "0 when there is no proof");
        TraceProver x = Samples.fibonacci();
        CHECK.dueProof("rules and table alone", x, new int[Model.LENGTH]);
        for (int bad : Outside.PROOF) {
            CHECK.due("proof(" + bad + ")", x.proof(bad), 0);
        }
    }

    private static void proofOfNoPlace() {
        CHECK.sentence("Promise 10", "or i is not 0 .. 178");
        TraceProver x = Samples.provedFibonacci();
        for (int bad : Outside.PROOF) {
            CHECK.due("proof(" + bad + ")", x.proof(bad), 0);
        }
    }

    private static void alterChangesOneInt() {
        CHECK.sentence("Promise 11", "Int i of the proof becomes v: true");
        TraceProver x = Samples.provedFibonacci();
        int[] row = Samples.fibonacciProof();
        int[] values = {Integer.MIN_VALUE, Integer.MAX_VALUE, -1, 0, 12289};
        for (int i = 0; i < row.length; i++) {
            row[i] = values[i % values.length];
            CHECK.due("alter(" + i + ", " + row[i] + ")", x.alter(i, row[i]), true);
        }
        CHECK.dueProof("all altered", x, row);
        for (int place : new int[] {0, 178}) {
            TraceProver y = Samples.provedFibonacci();
            int[] one = Samples.fibonacciProof();
            one[place] = 7;
            CHECK.due("alter(" + place + ", 7)", y.alter(place, 7), true);
            CHECK.due("alter(" + place + ", 7) again", y.alter(place, 7), true);
            CHECK.dueProof("int " + place + " alone altered", y, one);
        }
    }

    private static void alterWhereThereIsNoProof() {
        CHECK.sentence("Promise 11", "false when there is no proof");
        TraceProver x = Samples.fibonacci();
        for (int i = 0; i < Model.LENGTH; i++) {
            CHECK.due("alter(" + i + ", 9)", x.alter(i, 9), false);
        }
        CHECK.due("proof(0)", x.proof(0), 0);
        CHECK.due("verify()", x.verify(), TraceProver.NONE);
        CHECK.due("prove()", x.prove(), 0);
        CHECK.dueProof("proved behind it", x, Samples.fibonacciProof());
    }

    private static void alterOfNoPlace() {
        CHECK.sentence("Promise 11", "or i is not 0 .. 178");
        TraceProver x = Samples.provedFibonacci();
        for (int bad : Outside.PROOF) {
            CHECK.due("alter(" + bad + ", 1)", x.alter(bad, 1), false);
        }
        CHECK.dueProof("behind refused calls", x, Samples.fibonacciProof());
        CHECK.due("verify() behind refused calls", x.verify(), 0);
    }
}
