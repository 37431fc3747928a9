/** Rules and tables that several tests begin with. */
final class Samples {
    static final int[][] FULL_TERMS = {
        {0, 1, 1, 0}, {0, 2, 1, 0}, {0, 3, 1, 0}, {0, 4, 1, 0}, {0, 5, 1, 0}, {0, 15, 0, 0},
        {1, 12288, 0, 1}, {1, 12288, 1, 1}, {1, 12288, 2, 1}, {1, 12288, 3, 1}, {1, 12288, 4, 1}, {1, 12287, 2, 0}};
    static final int[][] FULL_BOUNDS = {{0, 0, 12288}, {1, 0, 3}, {0, 7, 12288}, {1, 7, 10}};

    private Samples() {
    }

    /** Fibonacci's numbers: column 0 is column 1 of the row before, column 1 the sum of both there. */
    static TraceProver fibonacci() {
        TraceProver x = new TraceProver();
        fibonacciRules(x);
        int a = 1;
        int b = 1;
        for (int r = 0; r < 8; r++) {
            x.set(0, r, a);
            x.set(1, r, b);
            int sum = a + b;
            a = b;
            b = sum;
        }
        return x;
    }

    static void fibonacciRules(TraceProver x) {
        x.term(0, 1, 3, 0);
        x.term(0, 12288, 2, 0);
        x.term(1, 1, 4, 0);
        x.term(1, 12288, 1, 0);
        x.term(1, 12288, 2, 0);
        x.bound(0, 0, 1);
        x.bound(1, 7, 34);
    }

    static TraceProver provedFibonacci() {
        TraceProver x = fibonacci();
        x.prove();
        return x;
    }

    static Model fibonacciModel() {
        Model model = new Model();
        model.term(0, 1, 3, 0);
        model.term(0, 12288, 2, 0);
        model.term(1, 1, 4, 0);
        model.term(1, 12288, 1, 0);
        model.term(1, 12288, 2, 0);
        model.bound(0, 0, 1);
        model.bound(1, 7, 34);
        int[] numbers = {1, 1, 2, 3, 5, 8, 13, 21, 34};
        for (int r = 0; r < 8; r++) {
            model.set(0, r, numbers[r]);
            model.set(1, r, numbers[r + 1]);
        }
        model.prove();
        return model;
    }

    /** As many rules as there can be, and a table that keeps them, none of them being idle. */
    static TraceProver fullRules() {
        TraceProver x = new TraceProver();
        for (int r = 0; r < 8; r++) {
            x.set(0, r, 12288);
            x.set(1, r, 3 + r);
        }
        for (int[] t : FULL_TERMS) {
            x.term(t[0], t[1], t[2], t[3]);
        }
        for (int[] b : FULL_BOUNDS) {
            x.bound(b[0], b[1], b[2]);
        }
        return x;
    }

    /** Read from an object of its own: an object is good for 512 calls, and the tests need theirs. */
    static int[] fibonacciProof() {
        return proofOf(provedFibonacci());
    }

    static int[] proofOf(TraceProver x) {
        int[] row = new int[Model.LENGTH];
        for (int i = 0; i < row.length; i++) {
            row[i] = x.proof(i);
        }
        return row;
    }

    static void write(TraceProver x, int[] row) {
        for (int i = 0; i < row.length; i++) {
            x.alter(i, row[i]);
        }
    }
}
