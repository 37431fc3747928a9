import java.math.BigInteger;

/**
 * A transcript, and trees, by numbers that do not wrap by themselves: the wrapping is written out here,
 * so that it is not left to the same int arithmetic as in the class.
 */
final class Script {
    private static final BigInteger WORD = BigInteger.ONE.shiftLeft(32);
    private static final BigInteger FACTOR = BigInteger.valueOf(16777619);

    private int state = 1;

    static int mix(int l, int r) {
        BigInteger m = BigInteger.valueOf(40503);
        for (int n : new int[] {l, r}) {
            m = m.xor(BigInteger.valueOf(Integer.toUnsignedLong(n))).multiply(FACTOR).mod(WORD);
            m = m.xor(m.shiftRight(15));
        }
        return m.intValue();
    }

    /** All nodes of a tree, the root being node 1. */
    static int[] tree(int[] leaves) {
        int[] nodes = new int[2 * leaves.length];
        System.arraycopy(leaves, 0, nodes, leaves.length, leaves.length);
        for (int n = leaves.length - 1; n >= 1; n--) {
            nodes[n] = mix(nodes[2 * n], nodes[2 * n + 1]);
        }
        return nodes;
    }

    static int[] columnTree(TraceProver x) {
        int[] leaves = new int[32];
        for (int i = 0; i < 32; i++) {
            leaves[i] = mix(x.at(0, i), x.at(1, i));
        }
        return tree(leaves);
    }

    static int[] layerTree(long[] values) {
        int[] leaves = new int[values.length];
        for (int i = 0; i < values.length; i++) {
            leaves[i] = mix((int) values[i], 12289);
        }
        return tree(leaves);
    }

    void tell(int... told) {
        for (int n : told) {
            state = mix(state, n);
        }
    }

    boolean isNegative() {
        return state < 0;
    }

    int challenge() {
        tell(-7);
        return withoutSign() % 12289;
    }

    int position() {
        tell(-9);
        return withoutSign() % 16;
    }

    /** it & 2147483647, written as what that does: the sign's bit, 2 to the power of 31, is taken away. */
    private int withoutSign() {
        return (int) (state < 0 ? state + 2147483648L : state);
    }
}
