import java.math.BigInteger;
import java.util.ArrayList;
import java.util.Arrays;
import java.util.List;

/**
 * The document once more, word by word and as slow as it likes, to compare the class with. It shares
 * no formula with the class: plain Lagrange interpolation, divisions where the document divides, trees
 * by recursion, and a proof that is read from its front to its end.
 */
final class Model {
    static final int P = 12289;
    static final int LENGTH = 179;
    static final int COLUMN_0 = -2;
    static final int COLUMN_1 = -1;
    static final int REST = 3;
    private static final long[] ROOT_POWERS = rootPowers();
    private static final long[] INVERSES = new long[P];

    /** A dishonest prover's hand: it changes values before they are committed to. */
    interface Tamper {
        void change(int stage, long[] values);
    }

    private final List<List<int[]>> constraints = new ArrayList<>();
    private final List<int[]> bounds = new ArrayList<>();
    private final int[][] cells = new int[2][8];
    private int[] kept = null;
    private int[] positions = null;
    private int transcript;

    Model() {
        constraints.add(new ArrayList<>());
        constraints.add(new ArrayList<>());
    }

    int term(int c, int k, int u, int v) {
        if (c < 0 || c > 1 || k < 0 || k > 12288 || u < 0 || u > 4 || v < 0 || v > 4) {
            return -1;
        }
        if (constraints.get(c).size() == 6) {
            return -3;
        }
        constraints.get(c).add(new int[] {k, u, v});
        return constraints.get(c).size();
    }

    int bound(int c, int r, int v) {
        if (c < 0 || c > 1 || r < 0 || r > 7 || v < 0 || v > 12288) {
            return -1;
        }
        if (bounds.size() == 4) {
            return -3;
        }
        bounds.add(new int[] {c, r, v});
        return bounds.size();
    }

    void clear() {
        constraints.get(0).clear();
        constraints.get(1).clear();
        bounds.clear();
    }

    boolean set(int c, int r, int v) {
        if (c < 0 || c > 1 || r < 0 || r > 7 || v < 0 || v > 12288) {
            return false;
        }
        cells[c][r] = v;
        return true;
    }

    int cell(int c, int r) {
        return c < 0 || c > 1 || r < 0 || r > 7 ? -1 : cells[c][r];
    }

    int at(int c, int i) {
        return c < 0 || c > 1 || i < 0 || i > 31 ? -1 : (int) lagrange(cells[c], x(i));
    }

    int wrong() {
        for (int r = 0; r <= 7; r++) {
            for (List<int[]> constraint : constraints) {
                if (r <= 6 && sum(constraint, cells[0][r], cells[1][r], cells[0][r + 1], cells[1][r + 1]) != 0) {
                    return r;
                }
            }
            for (int[] b : bounds) {
                if (b[1] == r && cells[b[0]][r] != b[2]) {
                    return r;
                }
            }
        }
        return -2;
    }

    int prove() {
        if (hasNoRules()) {
            return -1;
        }
        if (wrong() != -2) {
            return -10 - wrong();
        }
        kept = forge((stage, values) -> { });
        return 0;
    }

    int proof(int i) {
        return kept == null || i < 0 || i > 178 ? 0 : kept[i];
    }

    boolean alter(int i, int v) {
        if (kept == null || i < 0 || i > 178) {
            return false;
        }
        kept[i] = v;
        return true;
    }

    int verify() {
        positions = null;
        if (kept == null) {
            return -2;
        }
        if (hasNoRules()) {
            return -1;
        }
        Reading reading = new Reading(kept);
        if (!reading.isInField()) {
            return 1;
        }
        transcript = 1;
        tellRules();
        tell(kept[0]);
        long a = challenge();
        long[] b = new long[3];
        for (int layer = 0; layer < 3; layer++) {
            tell(kept[1 + layer]);
            b[layer] = challenge();
        }
        tell(kept[4]);
        positions = new int[] {drawPosition(), drawPosition(), drawPosition()};
        for (int k = 0; k < 3; k++) {
            int code = code(reading.places[k], positions[k], a, b);
            if (code != 0) {
                return code;
            }
        }
        return 0;
    }

    int position(int k) {
        return positions == null || k < 0 || k > 2 ? -2 : positions[k];
    }

    boolean hasProof() {
        return kept != null;
    }

    private boolean hasNoRules() {
        return constraints.get(0).isEmpty() && constraints.get(1).isEmpty() && bounds.isEmpty();
    }

    /** A proof made by the document's way, whether the table is wrong or not, with the hand's changes. */
    int[] forge(Tamper hand) {
        long[][] columns = new long[2][32];
        for (int i = 0; i < 32; i++) {
            columns[0][i] = lagrange(cells[0], x(i));
            columns[1][i] = lagrange(cells[1], x(i));
        }
        hand.change(COLUMN_0, columns[0]);
        hand.change(COLUMN_1, columns[1]);
        int[] columnLeaves = new int[32];
        for (int i = 0; i < 32; i++) {
            columnLeaves[i] = mix((int) columns[0][i], (int) columns[1][i]);
        }
        List<Integer> row = new ArrayList<>();
        transcript = 1;
        tellRules();
        row.add(node(columnLeaves, 1));
        tell(row.get(0));
        long a = challenge();
        long[] values = new long[32];
        for (int i = 0; i < 32; i++) {
            int n = (i + 4) % 32;
            values[i] = composition(i, a, columns[0][i], columns[1][i], columns[0][n], columns[1][n]);
        }
        long[][] layers = new long[3][];
        int[][] leaves = new int[3][];
        for (int layer = 0; layer < 3; layer++) {
            hand.change(layer, values);
            layers[layer] = values;
            leaves[layer] = layerLeaves(values);
            row.add(node(leaves[layer], 1));
            tell(row.get(1 + layer));
            values = foldAll(layer, values, challenge());
        }
        long[] rest = {values[0]};
        hand.change(REST, rest);
        row.add((int) rest[0]);
        tell((int) rest[0]);
        for (int k = 0; k < 3; k++) {
            open(row, drawPosition(), columns, columnLeaves, layers, leaves);
        }
        return row.stream().mapToInt(Integer::intValue).toArray();
    }

    private static void open(List<Integer> row, int j, long[][] columns, int[] columnLeaves, long[][] layers, int[][] leaves) {
        for (int i : new int[] {j, (j + 4) % 32, (j + 16) % 32, (j + 20) % 32}) {
            row.add((int) columns[0][i]);
            row.add((int) columns[1][i]);
            addPath(row, columnLeaves, i);
        }
        int[][] indexes = {{j, j + 16}, {j % 8, j % 8 + 8}, {j % 4, j % 4 + 4}};
        for (int layer = 0; layer < 3; layer++) {
            for (int i : indexes[layer]) {
                row.add((int) layers[layer][i]);
                addPath(row, leaves[layer], i);
            }
        }
    }

    private int code(Place place, int j, long a, long[] b) {
        int[] columnIndexes = {j, (j + 4) % 32, (j + 16) % 32, (j + 20) % 32};
        for (int q = 0; q < 4; q++) {
            if (climb(32, columnIndexes[q], mix(place.columns[q][0], place.columns[q][1]), place.columnPaths[q]) != kept[0]) {
                return 2;
            }
        }
        if (!layerLeads(place, 0, 32, j, j + 16)) {
            return 3;
        }
        for (int q = 0; q < 2; q++) {
            int[] here = place.columns[2 * q];
            int[] behind = place.columns[2 * q + 1];
            if (composition(j + 16 * q, a, here[0], here[1], behind[0], behind[1]) != place.values[0][q]) {
                return 4;
            }
        }
        if (!layerLeads(place, 1, 16, j % 8, j % 8 + 8)) {
            return 5;
        }
        if (fold(0, j, place.values[0][0], place.values[0][1], b[0]) != (j == j % 8 ? place.values[1][0] : place.values[1][1])) {
            return 6;
        }
        if (!layerLeads(place, 2, 8, j % 4, j % 4 + 4)) {
            return 7;
        }
        if (fold(1, j % 8, place.values[1][0], place.values[1][1], b[1]) != (j % 8 == j % 4 ? place.values[2][0] : place.values[2][1])) {
            return 8;
        }
        return fold(2, j % 4, place.values[2][0], place.values[2][1], b[2]) == kept[4] ? 0 : 9;
    }

    private boolean layerLeads(Place place, int layer, int size, int first, int second) {
        return climb(size, first, mix(place.values[layer][0], 12289), place.paths[layer][0]) == kept[1 + layer]
            && climb(size, second, mix(place.values[layer][1], 12289), place.paths[layer][1]) == kept[1 + layer];
    }

    /** The openings of a row, read from its front. */
    private static final class Reading {
        final Place[] places = new Place[3];
        private final int[] row;
        private int next = 5;

        Reading(int[] row) {
            this.row = row;
            for (int k = 0; k < 3; k++) {
                places[k] = readPlace();
            }
            if (next != LENGTH) {
                throw new IllegalStateException("a proof has " + next + " ints");
            }
        }

        private Place readPlace() {
            Place place = new Place();
            for (int q = 0; q < 4; q++) {
                place.columns[q] = take(2);
                place.columnPaths[q] = take(5);
            }
            for (int layer = 0; layer < 3; layer++) {
                for (int q = 0; q < 2; q++) {
                    place.values[layer][q] = take(1)[0];
                    place.paths[layer][q] = take(5 - layer);
                }
            }
            return place;
        }

        private int[] take(int count) {
            next += count;
            return Arrays.copyOfRange(row, next - count, next);
        }

        boolean isInField() {
            boolean all = isNumber(row[4]);
            for (Place place : places) {
                for (int[] pair : place.columns) {
                    all &= isNumber(pair[0]) && isNumber(pair[1]);
                }
                for (int[] pair : place.values) {
                    all &= isNumber(pair[0]) && isNumber(pair[1]);
                }
            }
            return all;
        }

        private static boolean isNumber(int n) {
            return 0 <= n && n <= 12288;
        }
    }

    private static final class Place {
        final int[][] columns = new int[4][];
        final int[][] columnPaths = new int[4][];
        final int[][] values = new int[3][2];
        final int[][][] paths = new int[3][2][];
    }

    static int mix(int l, int r) {
        int m = 40503;
        for (int n : new int[] {l, r}) {
            m = (m ^ n) * 16777619;
            m = m ^ (m >>> 15);
        }
        return m;
    }

    private static int node(int[] leaves, int n) {
        return n >= leaves.length ? leaves[n - leaves.length] : mix(node(leaves, 2 * n), node(leaves, 2 * n + 1));
    }

    private static void addPath(List<Integer> row, int[] leaves, int i) {
        for (int n = leaves.length + i; n > 1; n /= 2) {
            row.add(node(leaves, n ^ 1));
        }
    }

    private static int climb(int size, int i, int leaf, int[] path) {
        int n = size + i;
        int node = leaf;
        for (int sibling : path) {
            node = n % 2 == 0 ? mix(node, sibling) : mix(sibling, node);
            n /= 2;
        }
        if (n != 1) {
            throw new IllegalStateException("a path ends at node " + n);
        }
        return node;
    }

    private void tell(int n) {
        transcript = mix(transcript, n);
    }

    private void tellRules() {
        int count = !constraints.get(1).isEmpty() ? 2 : !constraints.get(0).isEmpty() ? 1 : 0;
        tell(count);
        for (int c = 0; c < count; c++) {
            tell(constraints.get(c).size());
            for (int[] t : constraints.get(c)) {
                tell(t[0]);
                tell(t[1]);
                tell(t[2]);
            }
        }
        tell(bounds.size());
        for (int[] b : bounds) {
            tell(b[0]);
            tell(b[1]);
            tell(b[2]);
        }
    }

    private long challenge() {
        tell(-7);
        return (transcript & 2147483647) % 12289;
    }

    private int drawPosition() {
        tell(-9);
        return (transcript & 2147483647) % 16;
    }

    static long power(long base, long exponent) {
        return BigInteger.valueOf(base).modPow(BigInteger.valueOf(exponent), BigInteger.valueOf(P)).longValue();
    }

    private static long over(long upper, long lower) {
        int divisor = Math.floorMod(lower, P);
        if (INVERSES[divisor] == 0) {
            INVERSES[divisor] = BigInteger.valueOf(divisor).modInverse(BigInteger.valueOf(P)).longValue();
        }
        return Math.floorMod(upper, P) * INVERSES[divisor] % P;
    }

    static long x(int i) {
        return 11 * ROOT_POWERS[i] % P;
    }

    static long h(int r) {
        return ROOT_POWERS[4 * r];
    }

    private static long[] rootPowers() {
        long[] row = new long[32];
        for (int i = 0; i < 32; i++) {
            row[i] = power(power(11, 384), i);
        }
        return row;
    }

    private static long lagrange(int[] cells, long x) {
        long sum = 0;
        for (int r = 0; r < 8; r++) {
            long product = cells[r];
            for (int s = 0; s < 8; s++) {
                if (s != r) {
                    product = product * over(x - h(s), h(r) - h(s)) % P;
                }
            }
            sum += product;
        }
        return sum % P;
    }

    private static long sum(List<int[]> constraint, long... columns) {
        long[] letters = {1, columns[0], columns[1], columns[2], columns[3]};
        long sum = 0;
        for (int[] t : constraint) {
            sum += t[0] * letters[t[1]] % P * letters[t[2]] % P;
        }
        return sum % P;
    }

    private long composition(int i, long a, long... columns) {
        int count = !constraints.get(1).isEmpty() ? 2 : !constraints.get(0).isEmpty() ? 1 : 0;
        long total = 0;
        int j = 0;
        for (int c = 0; c < count; c++) {
            long part = sum(constraints.get(c), columns) * Math.floorMod(x(i) - h(7), P) % P;
            total += power(a, j) * over(part, power(x(i), 8) - 1);
            j++;
        }
        for (int[] b : bounds) {
            total += power(a, j) * over(columns[b[0]] - b[2], x(i) - h(b[1]));
            j++;
        }
        return total % P;
    }

    private static int[] layerLeaves(long[] values) {
        int[] leaves = new int[values.length];
        for (int i = 0; i < values.length; i++) {
            leaves[i] = mix((int) values[i], 12289);
        }
        return leaves;
    }

    private static long[] foldAll(int layer, long[] values, long b) {
        int half = values.length / 2;
        long[] next = new long[half];
        for (int i = 0; i < half; i++) {
            next[i] = fold(layer, i, values[i], values[i + half], b);
        }
        return next;
    }

    private static long fold(int layer, int i, long f, long g, long b) {
        long y = power(x(i), 1L << layer);
        return (over(f + g, 2) + over(b * Math.floorMod(f - g, P) % P, 2 * y)) % P;
    }
}
