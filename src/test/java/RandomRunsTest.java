import java.util.Random;

/** All promises together: runs of calls by a seeded source, each answer compared with the model's. */
public final class RandomRunsTest {
    private static final Check CHECK = new Check();
    private static final int RUNS = 1000;
    private static final int CALLS = 512;
    private static final int[] SEEN = new int[12];
    private static final int[] EDGES = {-1, 0, 1, 2, 3, 4, 5, 6, 7, 8, 31, 32, 178, 179, 12288, 12289,
        Integer.MIN_VALUE, Integer.MAX_VALUE};

    private final Random random;
    private final TraceProver x = new TraceProver();
    private final Model model = new Model();
    private final int run;
    private int calls = 0;

    private RandomRunsTest(int run) {
        this.run = run;
        random = new Random(run);
    }

    public static void main(String[] args) {
        for (int run = 0; run < RUNS && CHECK.isClean(); run++) {
            new RandomRunsTest(run).go();
        }
        for (int code = -2; code <= 9; code++) {
            CHECK.due("verify() came to " + code, SEEN[2 + code] > 0, true);
        }
        CHECK.end();
    }

    private void go() {
        // The 179 calls at the end and the longest step before them stay within the document's 512.
        while (calls < CALLS - 250) {
            int kind = random.nextInt(10);
            if (kind < 3) {
                keepableRules();
                prove();
                verify();
            } else if (kind < 5) {
                wildRules();
                prove();
                verify();
            } else if (kind < 8) {
                alterSome();
                verify();
            } else {
                anyCall();
            }
        }
        for (int i = 0; i < Model.LENGTH; i++) {
            due("proof(" + i + ")", x.proof(i), model.proof(i));
        }
    }

    private void due(String call, long got, long want) {
        calls++;
        CHECK.due("run " + run + ", call " + calls + ": " + call, got, want);
    }

    private int number() {
        return random.nextInt(4) == 0 ? new int[] {0, 1, 12287, 12288}[random.nextInt(4)] : random.nextInt(12289);
    }

    private int edge() {
        return EDGES[random.nextInt(EDGES.length)];
    }

    private void term(int c, int k, int u, int v) {
        due("term(" + c + ", " + k + ", " + u + ", " + v + ")", x.term(c, k, u, v), model.term(c, k, u, v));
    }

    private void bound(int c, int r, int v) {
        due("bound(" + c + ", " + r + ", " + v + ")", x.bound(c, r, v), model.bound(c, r, v));
    }

    private void set(int c, int r, int v) {
        due("set(" + c + ", " + r + ", " + v + ")", x.set(c, r, v) ? 1 : 0, model.set(c, r, v) ? 1 : 0);
    }

    private void alter(int i, int v) {
        due("alter(" + i + ", " + v + ")", x.alter(i, v) ? 1 : 0, model.alter(i, v) ? 1 : 0);
    }

    private void clear() {
        calls++;
        x.clear();
        model.clear();
    }

    private void prove() {
        due("wrong()", x.wrong(), model.wrong());
        due("prove()", x.prove(), model.prove());
        for (int n = 0; n < 4; n++) {
            int i = random.nextInt(Model.LENGTH);
            due("proof(" + i + ")", x.proof(i), model.proof(i));
        }
    }

    private void verify() {
        int code = model.verify();
        SEEN[2 + code]++;
        due("verify()", x.verify(), code);
        for (int k = 0; k < 3; k++) {
            due("position(" + k + ")", x.position(k), model.position(k));
        }
    }

    /** Each constraint tells a column of the row behind from the row, so the table follows from row 0. */
    private void keepableRules() {
        clear();
        int[][][] rules = new int[2][][];
        int which = 1 + random.nextInt(3);
        for (int c = 0; c < 2; c++) {
            rules[c] = new int[(which >> c & 1) == 0 ? 0 : 1 + random.nextInt(5)][];
            for (int t = 0; t < rules[c].length; t++) {
                rules[c][t] = new int[] {number(), random.nextInt(3), random.nextInt(3)};
                term(c, rules[c][t][0], rules[c][t][1], rules[c][t][2]);
            }
            if (rules[c].length > 0) {
                term(c, 12288, random.nextBoolean() ? 3 + c : 0, 3 + c);
            }
        }
        fill(rules);
        int bounds = random.nextInt(5);
        for (int b = 0; b < bounds; b++) {
            int c = random.nextInt(2);
            int r = random.nextInt(8);
            bound(c, r, x.cell(c, r));
        }
    }

    private void fill(int[][][] rules) {
        long[] letters = {1, number(), number()};
        for (int r = 0; r < 8; r++) {
            set(0, r, (int) letters[1]);
            set(1, r, (int) letters[2]);
            long[] next = {1, number(), number()};
            for (int c = 0; c < 2; c++) {
                long sum = 0;
                for (int[] t : rules[c]) {
                    sum += t[0] * letters[t[1]] % Model.P * letters[t[2]] % Model.P;
                }
                next[1 + c] = rules[c].length > 0 ? sum % Model.P : next[1 + c];
            }
            letters = next;
        }
    }

    private void wildRules() {
        if (random.nextBoolean()) {
            clear();
        }
        if (random.nextBoolean()) {
            int v = random.nextInt(2);
            for (int r = 0; r < 8; r++) {
                set(0, r, v);
                set(1, r, v);
            }
        }
        int terms = random.nextInt(4);
        for (int t = 0; t < terms; t++) {
            int k = random.nextInt(3) == 0 ? 0 : number();
            int c = random.nextInt(2);
            int u = random.nextInt(5);
            int v = random.nextInt(5);
            term(c, k, u, v);
            term(c, (Model.P - k) % Model.P, v, random.nextInt(8) == 0 ? random.nextInt(5) : u);
        }
        if (random.nextInt(3) == 0) {
            int c = random.nextInt(2);
            int r = random.nextInt(8);
            bound(c, r, random.nextInt(4) == 0 ? number() : x.cell(c, r));
        }
    }

    private void alterSome() {
        int kind = random.nextInt(4);
        if (kind == 0 && model.hasProof() && calls < CALLS - 400) {
            int stage = random.nextInt(6) - 2;
            int first = random.nextInt(32);
            int step = random.nextBoolean() ? 1 : 32;
            int[] row = model.forge((seen, values) -> {
                for (int i = first % values.length; seen == stage && i < values.length; i += step) {
                    values[i] = number();
                }
            });
            for (int i = 0; i < row.length; i++) {
                alter(i, row[i]);
            }
            return;
        }
        int count = 1 + random.nextInt(3);
        for (int n = 0; n < count; n++) {
            int i = random.nextInt(Model.LENGTH);
            alter(i, kind == 1 ? edge() : kind == 2 ? random.nextInt() : number());
        }
    }

    private void anyCall() {
        int a = edge();
        int b = edge();
        switch (random.nextInt(9)) {
            case 0 -> term(random.nextInt(3), edge(), random.nextInt(6), edge());
            case 1 -> bound(random.nextInt(3), random.nextInt(9), edge());
            case 2 -> set(random.nextInt(3), edge(), edge());
            case 3 -> due("cell(" + a + ", " + b + ")", x.cell(a, b), model.cell(a, b));
            case 4 -> due("at(" + (a & 1) + ", " + b + ")", x.at(a & 1, b), model.at(a & 1, b));
            case 5 -> due("at(" + a + ", " + (b & 31) + ")", x.at(a, b & 31), model.at(a, b & 31));
            case 6 -> due("proof(" + a + ")", x.proof(a), model.proof(a));
            case 7 -> alter(a, b);
            default -> due("position(" + a + ")", x.position(a), model.position(a));
        }
    }
}
