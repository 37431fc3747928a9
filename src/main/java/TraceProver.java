/** A prover and a verifier of runs of a table of two columns; README.md tells how to use it. */
public final class TraceProver {
    public static final int BAD = -1;
    public static final int NONE = -2;
    public static final int FULL = -3;

    private static final int COLUMNS = 2;
    private static final int ROWS = 8;
    private static final int POINTS = 32;
    private static final int LAYERS = 3;
    private static final int POSITIONS = 3;
    private static final int OUT_OF_FIELD = 1;

    private final Points points;
    private final Rules rules;
    private final Table table;
    private final Proof kept;
    private final Prover prover;
    private final Verifier verifier;
    private boolean proved;
    private boolean positionsKnown;

    public TraceProver() {
        points = new Points();
        rules = new Rules(points);
        table = new Table(points);
        kept = new Proof();
        prover = new Prover(points, rules, table);
        verifier = new Verifier(points, rules, kept);
        proved = false;
        positionsKnown = false;
    }

    public int term(int c, int k, int u, int v) {
        if (!isColumn(c) || !Field.holds(k) || !isLetter(u) || !isLetter(v)) {
            return BAD;
        }
        return rules.addTerm(c, k, u, v);
    }

    public int bound(int c, int r, int v) {
        if (!isCell(c, r) || !Field.holds(v)) {
            return BAD;
        }
        return rules.addBound(c, r, v);
    }

    public void clear() {
        rules.dropAll();
    }

    public boolean set(int c, int r, int v) {
        if (!isCell(c, r) || !Field.holds(v)) {
            return false;
        }
        table.put(c, r, v);
        return true;
    }

    public int cell(int c, int r) {
        return isCell(c, r) ? table.get(c, r) : BAD;
    }

    public int at(int c, int i) {
        if (!isColumn(c) || i < 0 || i >= POINTS) {
            return BAD;
        }
        return table.polynomial(c, i);
    }

    public int wrong() {
        for (int r = 0; r < ROWS; r++) {
            if (rules.areBrokenIn(table, r)) {
                return r;
            }
        }
        return NONE;
    }

    public int prove() {
        if (rules.areNone()) {
            return BAD;
        }
        int row = wrong();
        if (row != NONE) {
            return -10 - row;
        }
        prover.writeTo(kept);
        proved = true;
        return 0;
    }

    public int proof(int i) {
        return isInProof(i) ? kept.ints[i] : 0;
    }

    public boolean alter(int i, int v) {
        if (!isInProof(i)) {
            return false;
        }
        kept.ints[i] = v;
        return true;
    }

    public int verify() {
        positionsKnown = false;
        if (!proved) {
            return NONE;
        }
        if (rules.areNone()) {
            return BAD;
        }
        int code = verifier.code();
        positionsKnown = code != OUT_OF_FIELD;
        return code;
    }

    public int position(int k) {
        if (!positionsKnown || k < 0 || k >= POSITIONS) {
            return NONE;
        }
        return verifier.place(k);
    }

    private boolean isInProof(int i) {
        return proved && i >= 0 && i < Proof.LENGTH;
    }

    private static boolean isColumn(int c) {
        return c >= 0 && c < COLUMNS;
    }

    private static boolean isCell(int c, int r) {
        return isColumn(c) && r >= 0 && r < ROWS;
    }

    private static boolean isLetter(int letter) {
        return letter >= 0 && letter < Rules.LETTERS;
    }

    private static int mix(int left, int right) {
        int m = (40503 ^ left) * 16777619;
        m = m ^ (m >>> 15);
        m = (m ^ right) * 16777619;
        return m ^ (m >>> 15);
    }

    /** The arithmetic of the field; every argument is a number of the field. */
    private static final class Field {
        static final int SIZE = 12289;
        static final int HALF = 6145;

        static boolean holds(int n) {
            return n >= 0 && n < SIZE;
        }

        static int plus(int a, int b) {
            return (a + b) % SIZE;
        }

        static int minus(int a, int b) {
            return (a - b + SIZE) % SIZE;
        }

        static int times(int a, int b) {
            return a * b % SIZE;
        }

        static int power(int base, int exponent) {
            int result = 1;
            int square = base;
            for (int left = exponent; left > 0; left = left / 2) {
                if (left % 2 == 1) {
                    result = times(result, square);
                }
                square = times(square, square);
            }
            return result;
        }

        static int inverse(int a) {
            return power(a, SIZE - 2);
        }
    }

    /** What hangs on the points alone: made once, since inverses are dear. */
    private static final class Points {
        private static final int SHIFT = 11;
        private static final int ROW_STEP = POINTS / ROWS;

        private final int[] rootPowers = new int[POINTS];
        private final int[] overPoint = new int[POINTS];
        private final int[] overPointLessOne = new int[POINTS];
        private final int[] constraintFactors = new int[POINTS];
        private final int[] columnFactors = new int[POINTS];

        Points() {
            int root = Field.power(SHIFT, 384);
            rootPowers[0] = 1;
            for (int i = 1; i < POINTS; i++) {
                rootPowers[i] = Field.times(rootPowers[i - 1], root);
            }
            int overEight = Field.inverse(ROWS);
            for (int i = 0; i < POINTS; i++) {
                int x = Field.times(SHIFT, rootPowers[i]);
                int vanishing = Field.minus(Field.power(x, ROWS), 1);
                int lessLastRow = Field.minus(x, rowPoint(ROWS - 1));
                overPoint[i] = Field.inverse(x);
                overPointLessOne[i] = Field.inverse(Field.minus(x, 1));
                constraintFactors[i] = Field.times(lessLastRow, Field.inverse(vanishing));
                columnFactors[i] = Field.times(vanishing, overEight);
            }
        }

        private int rowPoint(int r) {
            return rootPowers[ROW_STEP * r];
        }

        /** (X(i) - H^7) / (X(i)^8 - 1). */
        int constraintFactor(int i) {
            return constraintFactors[i];
        }

        /** 1 / (X(i) - H^r), by X(i) - H^r = H^r * (X(i - 4r) - 1). */
        int boundFactor(int i, int r) {
            int overRowPoint = rowPoint((ROWS - r) % ROWS);
            return Field.times(overRowPoint, overPointLessOne[rowsBefore(i, r)]);
        }

        /**
         * The polynomial at X(i) that has these cells at the powers of H: with x for X(i), it is
         * (x^8 - 1) / 8 times the sum of cell * H^r / (x - H^r), and H^r / (x - H^r) is 1 / (X(i - 4r) - 1).
         */
        int interpolate(int[] cells, int i) {
            int sum = 0;
            for (int r = 0; r < ROWS; r++) {
                sum = Field.plus(sum, Field.times(cells[r], overPointLessOne[rowsBefore(i, r)]));
            }
            return Field.times(sum, columnFactors[i]);
        }

        private static int rowsBefore(int i, int r) {
            return (i + POINTS - ROW_STEP * r) % POINTS;
        }

        static int rowBehind(int i) {
            return (i + ROW_STEP) % POINTS;
        }

        /** Value i of the layer behind, f and g being the values that fall together there. */
        int fold(int layer, int i, int f, int g, int challenge) {
            int overY = Field.power(overPoint[i], 1 << layer);
            int slope = Field.times(Field.minus(f, g), overY);
            int doubled = Field.plus(Field.plus(f, g), Field.times(challenge, slope));
            return Field.times(doubled, Field.HALF);
        }
    }

    /** The cells. */
    private static final class Table {
        private final Points points;
        private final int[][] cells = new int[COLUMNS][ROWS];

        Table(Points points) {
            this.points = points;
        }

        void put(int c, int r, int v) {
            cells[c][r] = v;
        }

        int get(int c, int r) {
            return cells[c][r];
        }

        int polynomial(int c, int i) {
            return points.interpolate(cells[c], i);
        }
    }

    /** The constraints and the bounds. */
    private static final class Rules {
        static final int LETTERS = 5;
        private static final int CONSTRAINTS = 2;
        private static final int MOST_TERMS = 6;
        private static final int MOST_BOUNDS = 4;
        private static final int PARTS = 3;

        private final Points points;
        private final int[] termCounts = new int[CONSTRAINTS];
        private final int[][] terms = new int[CONSTRAINTS][MOST_TERMS * PARTS];
        private final int[] bounds = new int[MOST_BOUNDS * PARTS];
        private int boundCount;
        private final int[] letters = new int[LETTERS];

        Rules(Points points) {
            this.points = points;
            boundCount = 0;
            letters[0] = 1;
        }

        int addTerm(int constraint, int k, int u, int v) {
            if (termCounts[constraint] >= MOST_TERMS) {
                return FULL;
            }
            write(terms[constraint], termCounts[constraint], k, u, v);
            termCounts[constraint]++;
            return termCounts[constraint];
        }

        int addBound(int c, int r, int v) {
            if (boundCount >= MOST_BOUNDS) {
                return FULL;
            }
            write(bounds, boundCount, c, r, v);
            boundCount++;
            return boundCount;
        }

        private static void write(int[] row, int index, int first, int second, int third) {
            row[PARTS * index] = first;
            row[PARTS * index + 1] = second;
            row[PARTS * index + 2] = third;
        }

        void dropAll() {
            termCounts[0] = 0;
            termCounts[1] = 0;
            boundCount = 0;
        }

        boolean areNone() {
            return constraintCount() == 0 && boundCount == 0;
        }

        private int constraintCount() {
            if (termCounts[1] > 0) {
                return 2;
            }
            return termCounts[0] > 0 ? 1 : 0;
        }

        void tellTo(Talk talk) {
            int constraints = constraintCount();
            talk.tell(constraints);
            for (int c = 0; c < constraints; c++) {
                tellParts(talk, terms[c], termCounts[c]);
            }
            tellParts(talk, bounds, boundCount);
        }

        private static void tellParts(Talk talk, int[] row, int count) {
            talk.tell(count);
            for (int i = 0; i < PARTS * count; i++) {
                talk.tell(row[i]);
            }
        }

        boolean areBrokenIn(Table table, int r) {
            return (r < ROWS - 1 && isStepBroken(table, r)) || isBoundBroken(table, r);
        }

        private boolean isStepBroken(Table table, int r) {
            read(table.get(0, r), table.get(1, r), table.get(0, r + 1), table.get(1, r + 1));
            for (int c = 0; c < CONSTRAINTS; c++) {
                if (termSum(c) != 0) {
                    return true;
                }
            }
            return false;
        }

        private boolean isBoundBroken(Table table, int r) {
            for (int b = 0; b < boundCount; b++) {
                if (boundRow(b) == r && table.get(boundColumn(b), r) != boundValue(b)) {
                    return true;
                }
            }
            return false;
        }

        /** Gives the letters their numbers, for the calls of termSum and composition that come next. */
        void read(int first, int second, int firstBehind, int secondBehind) {
            letters[1] = first;
            letters[2] = second;
            letters[3] = firstBehind;
            letters[4] = secondBehind;
        }

        private int termSum(int constraint) {
            int[] row = terms[constraint];
            int sum = 0;
            for (int t = 0; t < termCounts[constraint]; t++) {
                int first = letters[row[PARTS * t + 1]];
                int second = letters[row[PARTS * t + 2]];
                sum = Field.plus(sum, Field.times(row[PARTS * t], Field.times(first, second)));
            }
            return sum;
        }

        int composition(int i, int challenge) {
            int sum = 0;
            int weight = 1;
            int constraints = constraintCount();
            for (int c = 0; c < constraints; c++) {
                int quotient = Field.times(termSum(c), points.constraintFactor(i));
                sum = Field.plus(sum, Field.times(weight, quotient));
                weight = Field.times(weight, challenge);
            }
            for (int b = 0; b < boundCount; b++) {
                int gap = Field.minus(letters[1 + boundColumn(b)], boundValue(b));
                int quotient = Field.times(gap, points.boundFactor(i, boundRow(b)));
                sum = Field.plus(sum, Field.times(weight, quotient));
                weight = Field.times(weight, challenge);
            }
            return sum;
        }

        private int boundColumn(int b) {
            return bounds[PARTS * b];
        }

        private int boundRow(int b) {
            return bounds[PARTS * b + 1];
        }

        private int boundValue(int b) {
            return bounds[PARTS * b + 2];
        }
    }

    /** The transcript and what was drawn from it. */
    private static final class Talk {
        private int transcript;
        private int composing;
        private final int[] folding = new int[LAYERS];
        private final int[] places = new int[POSITIONS];

        void tell(int n) {
            transcript = mix(transcript, n);
        }

        private int draw(int sign, int limit) {
            tell(sign);
            return (transcript & 2147483647) % limit;
        }

        private int challenge() {
            return draw(-7, Field.SIZE);
        }

        void begin(Rules rules, int columnsRoot) {
            transcript = 1;
            rules.tellTo(this);
            tell(columnsRoot);
            composing = challenge();
        }

        void hearLayer(int layer, int root) {
            tell(root);
            folding[layer] = challenge();
        }

        void end(int rest) {
            tell(rest);
            for (int k = 0; k < POSITIONS; k++) {
                places[k] = draw(-9, POINTS / 2);
            }
        }
    }

    /** A tree over as many leaves as it was made for. */
    private static final class Tree {
        private final int leafCount;
        private final int[] nodes;

        Tree(int leafCount) {
            this.leafCount = leafCount;
            nodes = new int[2 * leafCount];
        }

        void plant(int i, int leaf) {
            nodes[leafCount + i] = leaf;
        }

        int grow() {
            for (int n = leafCount - 1; n >= 1; n--) {
                nodes[n] = mix(nodes[2 * n], nodes[2 * n + 1]);
            }
            return nodes[1];
        }

        void copyPath(int i, int[] row, int from) {
            int to = from;
            for (int n = leafCount + i; n > 1; n = n / 2) {
                row[to] = nodes[n ^ 1];
                to++;
            }
        }

        /** The root that leaf i has by the path that stands in the row. */
        static int rootOf(int leafCount, int i, int leaf, int[] row, int from) {
            int node = leaf;
            int next = from;
            for (int n = leafCount + i; n > 1; n = n / 2) {
                node = n % 2 == 0 ? mix(node, row[next]) : mix(row[next], node);
                next++;
            }
            return node;
        }
    }

    /** The row of ints and where what stands in it. */
    private static final class Proof {
        static final int LENGTH = 179;
        static final int REST = 4;
        static final int COLUMN_OPENINGS = 4;
        static final int LAYER_OPENINGS = 2;
        private static final int FIRST_OPENING = 5;
        private static final int OPENINGS = 58;
        private static final int COLUMN_OPENING = 7;
        private static final int LAYER_OPENING = 6;
        private static final int[] COLUMN_STEPS = {0, 4, 16, 20};
        private static final int[] LAYER_STARTS = {28, 40, 50};

        private final int[] ints = new int[LENGTH];

        /** Where opening q of the columns for position k begins: both values, then the path. */
        static int columnStart(int k, int q) {
            return FIRST_OPENING + OPENINGS * k + COLUMN_OPENING * q;
        }

        static int columnIndex(int j, int q) {
            return (j + COLUMN_STEPS[q]) % POINTS;
        }

        /** Where opening q of a layer for position k begins: the value, then the path. */
        static int layerStart(int k, int layer, int q) {
            return FIRST_OPENING + OPENINGS * k + LAYER_STARTS[layer] + (LAYER_OPENING - layer) * q;
        }

        static int layerIndex(int j, int layer, int q) {
            int half = layerSize(layer) / 2;
            return j % half + half * q;
        }

        static int layerSize(int layer) {
            return POINTS >> layer;
        }

        static int columnLeaf(int first, int second) {
            return mix(first, second);
        }

        static int layerLeaf(int value) {
            return mix(value, Field.SIZE);
        }

        boolean isInField() {
            if (!Field.holds(ints[REST])) {
                return false;
            }
            for (int k = 0; k < POSITIONS; k++) {
                if (!areColumnsInField(k) || !areLayersInField(k)) {
                    return false;
                }
            }
            return true;
        }

        private boolean areColumnsInField(int k) {
            for (int q = 0; q < COLUMN_OPENINGS; q++) {
                int start = columnStart(k, q);
                if (!Field.holds(ints[start]) || !Field.holds(ints[start + 1])) {
                    return false;
                }
            }
            return true;
        }

        private boolean areLayersInField(int k) {
            for (int layer = 0; layer < LAYERS; layer++) {
                for (int q = 0; q < LAYER_OPENINGS; q++) {
                    if (!Field.holds(ints[layerStart(k, layer, q)])) {
                        return false;
                    }
                }
            }
            return true;
        }
    }

    /** Makes proofs; it holds the rows that it needs for that, to use them again. */
    private static final class Prover {
        private final Points points;
        private final Rules rules;
        private final Table table;
        private final Talk talk = new Talk();
        private final int[][] columns = new int[COLUMNS][POINTS];
        private final int[][] layers = new int[LAYERS][POINTS];
        private final Tree columnTree = new Tree(POINTS);
        private final Tree[] layerTrees = new Tree[LAYERS];

        Prover(Points points, Rules rules, Table table) {
            this.points = points;
            this.rules = rules;
            this.table = table;
            for (int layer = 0; layer < LAYERS; layer++) {
                layerTrees[layer] = new Tree(Proof.layerSize(layer));
            }
        }

        void writeTo(Proof target) {
            target.ints[0] = commitColumns();
            talk.begin(rules, target.ints[0]);
            compose();
            for (int layer = 0; layer < LAYERS; layer++) {
                if (layer > 0) {
                    foldInto(layer);
                }
                target.ints[1 + layer] = commitLayer(layer);
                talk.hearLayer(layer, target.ints[1 + layer]);
            }
            target.ints[Proof.REST] = folded(LAYERS - 1, 0);
            talk.end(target.ints[Proof.REST]);
            for (int k = 0; k < POSITIONS; k++) {
                openColumns(target.ints, k);
                openLayers(target.ints, k);
            }
        }

        private int commitColumns() {
            for (int i = 0; i < POINTS; i++) {
                columns[0][i] = table.polynomial(0, i);
                columns[1][i] = table.polynomial(1, i);
                columnTree.plant(i, Proof.columnLeaf(columns[0][i], columns[1][i]));
            }
            return columnTree.grow();
        }

        private void compose() {
            for (int i = 0; i < POINTS; i++) {
                int behind = Points.rowBehind(i);
                rules.read(columns[0][i], columns[1][i], columns[0][behind], columns[1][behind]);
                layers[0][i] = rules.composition(i, talk.composing);
            }
        }

        private void foldInto(int layer) {
            for (int i = 0; i < Proof.layerSize(layer); i++) {
                layers[layer][i] = folded(layer - 1, i);
            }
        }

        private int folded(int layer, int i) {
            int other = i + Proof.layerSize(layer) / 2;
            return points.fold(layer, i, layers[layer][i], layers[layer][other], talk.folding[layer]);
        }

        private int commitLayer(int layer) {
            Tree tree = layerTrees[layer];
            for (int i = 0; i < Proof.layerSize(layer); i++) {
                tree.plant(i, Proof.layerLeaf(layers[layer][i]));
            }
            return tree.grow();
        }

        private void openColumns(int[] ints, int k) {
            for (int q = 0; q < Proof.COLUMN_OPENINGS; q++) {
                int i = Proof.columnIndex(talk.places[k], q);
                int start = Proof.columnStart(k, q);
                ints[start] = columns[0][i];
                ints[start + 1] = columns[1][i];
                columnTree.copyPath(i, ints, start + 2);
            }
        }

        private void openLayers(int[] ints, int k) {
            for (int layer = 0; layer < LAYERS; layer++) {
                for (int q = 0; q < Proof.LAYER_OPENINGS; q++) {
                    int i = Proof.layerIndex(talk.places[k], layer, q);
                    int start = Proof.layerStart(k, layer, q);
                    ints[start] = layers[layer][i];
                    layerTrees[layer].copyPath(i, ints, start + 1);
                }
            }
        }
    }

    /** Looks at a proof and the rules alone, never at the table. */
    private static final class Verifier {
        private final Points points;
        private final Rules rules;
        private final Proof subject;
        private final int[] ints;
        private final Talk talk = new Talk();

        Verifier(Points points, Rules rules, Proof subject) {
            this.points = points;
            this.rules = rules;
            this.subject = subject;
            ints = subject.ints;
        }

        int place(int k) {
            return talk.places[k];
        }

        int code() {
            if (!subject.isInField()) {
                return OUT_OF_FIELD;
            }
            listen();
            for (int k = 0; k < POSITIONS; k++) {
                int code = codeOf(k);
                if (code != 0) {
                    return code;
                }
            }
            return 0;
        }

        private void listen() {
            talk.begin(rules, ints[0]);
            for (int layer = 0; layer < LAYERS; layer++) {
                talk.hearLayer(layer, ints[1 + layer]);
            }
            talk.end(ints[Proof.REST]);
        }

        private int codeOf(int k) {
            if (!doColumnPathsLead(k)) {
                return 2;
            }
            if (!doLayerPathsLead(k, 0)) {
                return 3;
            }
            if (!isComposed(k, 0) || !isComposed(k, 1)) {
                return 4;
            }
            if (!doLayerPathsLead(k, 1)) {
                return 5;
            }
            if (folded(k, 0) != valueBehind(k, 0)) {
                return 6;
            }
            if (!doLayerPathsLead(k, 2)) {
                return 7;
            }
            if (folded(k, 1) != valueBehind(k, 1)) {
                return 8;
            }
            return folded(k, 2) == ints[Proof.REST] ? 0 : 9;
        }

        private boolean doColumnPathsLead(int k) {
            for (int q = 0; q < Proof.COLUMN_OPENINGS; q++) {
                int i = Proof.columnIndex(place(k), q);
                int start = Proof.columnStart(k, q);
                int leaf = Proof.columnLeaf(ints[start], ints[start + 1]);
                if (Tree.rootOf(POINTS, i, leaf, ints, start + 2) != ints[0]) {
                    return false;
                }
            }
            return true;
        }

        private boolean doLayerPathsLead(int k, int layer) {
            int size = Proof.layerSize(layer);
            for (int q = 0; q < Proof.LAYER_OPENINGS; q++) {
                int i = Proof.layerIndex(place(k), layer, q);
                int start = Proof.layerStart(k, layer, q);
                int leaf = Proof.layerLeaf(ints[start]);
                if (Tree.rootOf(size, i, leaf, ints, start + 1) != ints[1 + layer]) {
                    return false;
                }
            }
            return true;
        }

        /** Openings 2q and 2q + 1 of the columns are the point of layer 0's opening q and the row behind it. */
        private boolean isComposed(int k, int q) {
            int here = Proof.columnStart(k, 2 * q);
            int behind = Proof.columnStart(k, 2 * q + 1);
            rules.read(ints[here], ints[here + 1], ints[behind], ints[behind + 1]);
            int due = rules.composition(Proof.layerIndex(place(k), 0, q), talk.composing);
            return due == ints[Proof.layerStart(k, 0, q)];
        }

        private int folded(int k, int layer) {
            int f = ints[Proof.layerStart(k, layer, 0)];
            int g = ints[Proof.layerStart(k, layer, 1)];
            int i = Proof.layerIndex(place(k), layer, 0);
            return points.fold(layer, i, f, g, talk.folding[layer]);
        }

        /** The value in the layer behind that this layer's two are folded to; one of its openings has it. */
        private int valueBehind(int k, int layer) {
            int next = layer + 1;
            int size = Proof.layerSize(next);
            int q = place(k) % size / (size / 2);
            return ints[Proof.layerStart(k, next, q)];
        }
    }
}
