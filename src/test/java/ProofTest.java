/** Promises 9 to 11: prove, proof, alter. */
public final class ProofTest {
    private static final Check CHECK = new Check();

    public static void main(String[] args) {
        knownProofs();
        refusals();
        refusalsKeepTheProof();
        provingAgain();
        provingOtherThings();
        emptyConstraintCounts();
        highestDegree();
        placesOfTheRow();
        refusedAlters();
        altering();
        CHECK.end();
    }

    private static void knownProofs() {
        TraceProver x = Samples.fibonacci();
        CHECK.due("prove()", x.prove(), 0);
        CHECK.due("proof(0)", x.proof(0), 195286276);
        CHECK.due("proof(1)", x.proof(1), -178379704);
        CHECK.due("proof(4)", x.proof(4), 8775);
        CHECK.due("proof(5)", x.proof(5), 9947);
        CHECK.due("proof(178)", x.proof(178), 634679881);
        TraceProver zeros = new TraceProver();
        zeros.bound(1, 2, 0);
        CHECK.due("a bound alone", zeros.prove(), 0);
        CHECK.due("the rest of zeros", zeros.proof(4), 0);
        CHECK.due("the layers of zeros", zeros.proof(33), 0);
    }

    private static void refusals() {
        CHECK.due("no rules", new TraceProver().prove(), TraceProver.BAD);
        for (int r = 0; r < 8; r++) {
            TraceProver x = new TraceProver();
            x.bound(0, r, 1);
            CHECK.due("row " + r + " wrong", x.prove(), -10 - r);
            CHECK.due("no proof by that", x.verify(), TraceProver.NONE);
            CHECK.due("no proof by that", x.alter(0, 0), false);
        }
        TraceProver step = new TraceProver();
        step.term(0, 0, 0, 0);
        CHECK.due("a constraint that asks nothing", step.prove(), 0);
        step.term(1, 1, 0, 0);
        CHECK.due("a constraint that no row keeps", step.prove(), -10);
    }

    private static void refusalsKeepTheProof() {
        TraceProver x = Samples.provedFibonacci();
        int[] row = Samples.fibonacciProof();
        x.alter(50, -77);
        row[50] = -77;
        x.set(0, 5, 0);
        CHECK.due("prove() with a wrong row", x.prove(), -14);
        dueRow("after a refusal", x, row);
        x.clear();
        CHECK.due("prove() without rules", x.prove(), TraceProver.BAD);
        dueRow("after a second one", x, row);
    }

    private static void provingAgain() {
        TraceProver x = Samples.provedFibonacci();
        int[] row = Samples.fibonacciProof();
        for (int i = 0; i < row.length; i++) {
            x.alter(i, 12345 + i);
        }
        CHECK.due("prove() again", x.prove(), 0);
        dueRow("made again", x, row);
    }

    private static void provingOtherThings() {
        TraceProver x = Samples.provedFibonacci();
        for (int r = 0; r < 8; r++) {
            x.set(0, r, 0);
            x.set(1, r, 0);
        }
        x.clear();
        x.term(1, 5, 3, 2);
        CHECK.due("prove() of other things", x.prove(), 0);
        TraceProver fresh = new TraceProver();
        fresh.term(1, 5, 3, 2);
        fresh.prove();
        dueRow("as on a new object", x, Samples.proofOf(fresh));
    }

    private static void emptyConstraintCounts() {
        TraceProver second = new TraceProver();
        Model model = new Model();
        for (int r = 0; r < 8; r++) {
            second.set(0, r, 3 * r + 1);
            model.set(0, r, 3 * r + 1);
        }
        second.term(1, 7, 2, 1);
        model.term(1, 7, 2, 1);
        second.bound(0, 1, 4);
        model.bound(0, 1, 4);
        CHECK.due("constraint 1 alone", second.prove(), model.prove());
        dueRow("constraint 1 alone", second, model);
    }

    private static void highestDegree() {
        TraceProver x = new TraceProver();
        Model model = new Model();
        long a = 3;
        for (int r = 0; r < 8; r++) {
            x.set(0, r, (int) a);
            model.set(0, r, (int) a);
            x.set(1, r, 12288 - r);
            model.set(1, r, 12288 - r);
            a = a * a % Model.P * 12288 % Model.P;
        }
        x.term(0, 12288, 1, 1);
        model.term(0, 12288, 1, 1);
        x.term(0, 12288, 3, 0);
        model.term(0, 12288, 3, 0);
        CHECK.due("squares", x.prove(), model.prove());
        dueRow("squares", x, model);
        CHECK.due("squares: verify()", x.verify(), 0);
    }

    private static void placesOfTheRow() {
        TraceProver x = Samples.provedFibonacci();
        x.verify();
        for (int k = 0; k < 3; k++) {
            int j = x.position(k);
            int start = 5 + 58 * k;
            int[] points = {j, j + 4, j + 16, j + 20};
            for (int q = 0; q < 4; q++) {
                CHECK.due("column 0 opened", x.proof(start + 7 * q), x.at(0, points[q] % 32));
                CHECK.due("column 1 opened", x.proof(start + 7 * q + 1), x.at(1, points[q] % 32));
            }
        }
        for (int bad : new int[] {-1, 179, 180, Integer.MIN_VALUE, Integer.MAX_VALUE}) {
            CHECK.due("proof(" + bad + ")", x.proof(bad), 0);
        }
    }

    private static void refusedAlters() {
        TraceProver x = Samples.provedFibonacci();
        for (int bad : new int[] {-1, 179, 180, Integer.MIN_VALUE, Integer.MAX_VALUE}) {
            CHECK.due("alter(" + bad + ")", x.alter(bad, 1), false);
        }
        dueRow("after refused alters", x, Samples.fibonacciProof());
    }

    private static void altering() {
        TraceProver x = Samples.provedFibonacci();
        int[] row = Samples.fibonacciProof();
        int[] values = {Integer.MIN_VALUE, Integer.MAX_VALUE, -1, 0, 12289};
        for (int i = 0; i < row.length; i++) {
            row[i] = values[i % values.length];
            CHECK.due("alter(" + i + ")", x.alter(i, row[i]), true);
        }
        dueRow("all altered", x, row);
    }

    private static void dueRow(String when, TraceProver x, int[] row) {
        for (int i = 0; i < row.length; i++) {
            CHECK.due(when + ": proof(" + i + ")", x.proof(i), row[i]);
        }
    }

    private static void dueRow(String when, TraceProver x, Model model) {
        for (int i = 0; i < Model.LENGTH; i++) {
            CHECK.due(when + ": proof(" + i + ")", x.proof(i), model.proof(i));
        }
    }
}
