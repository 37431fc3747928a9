/** Rules and tables that several tests begin with. */
final class Samples {
    private Samples() {
    }

    /** Fibonacci's numbers: column 0 is column 1 of the row before, column 1 the sum of both there. */
    static TraceProver fibonacci() {
        TraceProver x = new TraceProver();
        x.term(0, 1, 3, 0);
        x.term(0, 12288, 2, 0);
        x.term(1, 1, 4, 0);
        x.term(1, 12288, 1, 0);
        x.term(1, 12288, 2, 0);
        x.bound(0, 0, 1);
        x.bound(1, 7, 34);
        int a = 1;
        int b = 1;
        for (int r = 0; r < 8; r++) {
            x.set(0, r, a);
            x.set(1, r, b);
            int sum = a + b;
            a = b;
            b = sum;
        }
        return x;
    }

    static TraceProver provedFibonacci() {
        TraceProver x = fibonacci();
        x.prove();
        return x;
    }

    /** Read from an object of its own: an object is good for 512 calls, and the tests need theirs. */
    static int[] fibonacciProof() {
        return proofOf(provedFibonacci());
    }

    static int[] proofOf(TraceProver x) {
        int[] row = new int[Model.LENGTH];
        for (int i = 0; i < row.length; i++) {
            row[i] = x.proof(i);
        }
        return row;
    }

    static void write(TraceProver x, int[] row) {
        for (int i = 0; i < row.length; i++) {
            x.alter(i, row[i]);
        }
    }
}
