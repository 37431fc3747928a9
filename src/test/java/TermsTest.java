/**
 * The document's 'Terms', where they name a boundary: the field, the points and the rows that are behind
 * others, the wrapping MIX, the transcript, the positions, the layers. What is due is reckoned here from
 * the document's formulas, or is the model's; each sentence is told with the promise that shows it.
 */
public final class TermsTest {
    private static final Check CHECK = new Check();
    private static final int P = Model.P;
    private static final int[] FOUR = {0, 4, 16, 20};

    public static void main(String[] args) {
        CHECK.run(
            TermsTest::lastOfTheCalls,
            TermsTest::sumsAreReckonedInTheField,
            TermsTest::differencesAreReckonedInTheField,
            TermsTest::pointsAreThirtyTwo,
            TermsTest::rowPointsAreEight,
            TermsTest::cellsAreZeroAtFirst,
            TermsTest::degreeIsAtMostSeven,
            TermsTest::lettersAreTheRowAndTheRowBehind,
            TermsTest::rowSevenHasNoRowBehind,
            TermsTest::emptyConstraintIsKept,
            TermsTest::boundsOfRowSevenCount,
            TermsTest::rulesUpToTheLastCount,
            TermsTest::constraintsAreCountedToTheLast,
            TermsTest::transcriptIsOneAtFirst,
            TermsTest::pointsBehindGoRound,
            TermsTest::openedPointsGoRound,
            TermsTest::mixWraps,
            TermsTest::treesHaveEveryLeaf,
            TermsTest::pathsEndBelowTheRoot,
            TermsTest::talkOfFewAndOfFullRules,
            TermsTest::emptyConstraintIsNumbered,
            TermsTest::drawsAreFreeOfTheSign,
            TermsTest::positionsAreBelowSixteen,
            TermsTest::layersAreHalved,
            TermsTest::proofHas179Ints);
        CHECK.end();
    }

    private static void lastOfTheCalls() {
        CHECK.sentence("What it is", "An object is used for at most 512 calls after it has been made");
        TraceProver x = Samples.fibonacci();
        int calls = 7 + 16;
        for (; calls < 506; calls += 3) {
            x.prove();
            x.verify();
            x.alter(178, 1);
        }
        CHECK.due("calls left", 512 - calls, 6);
        CHECK.due("call 507: verify()", x.verify(), 7);
        CHECK.due("call 508: prove()", x.prove(), 0);
        CHECK.due("call 509: verify()", x.verify(), 0);
        CHECK.due("call 510: position(2)", x.position(2), 4);
        CHECK.due("call 511: proof(178)", x.proof(178), 634679881);
        CHECK.due("call 512: at(1, 31)", x.at(1, 31), 2889);
    }

    private static void sumsAreReckonedInTheField() {
        CHECK.sentence("Terms, Promise 8", "numbers 0 .. 12288, reckoned modulo 12289 (sums and products)");
        TraceProver x = new TraceProver();
        x.term(0, 12288, 0, 0);
        CHECK.due("12288 alone: wrong()", x.wrong(), 0);
        x.term(0, 1, 0, 0);
        CHECK.due("12288 + 1: wrong()", x.wrong(), TraceProver.NONE);
        for (int n = 0; n < 3; n++) {
            x.term(0, 12288, 0, 0);
        }
        CHECK.due("and 3 * 12288: wrong()", x.wrong(), 0);
        x.term(0, 3, 0, 0);
        CHECK.due("and 3: wrong()", x.wrong(), TraceProver.NONE);
        TraceProver y = new TraceProver();
        for (int r = 0; r < 8; r++) {
            y.set(0, r, 12288);
            y.set(1, r, 12288);
        }
        y.term(1, 12288, 1, 4);
        CHECK.due("12288 * 12288 * 12288: wrong()", y.wrong(), 0);
        y.term(1, 12288, 2, 3);
        CHECK.due("twice that: wrong()", y.wrong(), 0);
        y.term(1, 2, 0, 0);
        CHECK.due("twice that and 2: wrong()", y.wrong(), TraceProver.NONE);
    }

    private static void differencesAreReckonedInTheField() {
        CHECK.sentence("Terms, Promise 9", "numbers 0 .. 12288, reckoned modulo 12289 (differences)");
        for (int v : new int[] {0, 1, 12287, 12288}) {
            Twin twin = new Twin(CHECK, "bounds of " + v);
            twin.set(0, 0, v);
            twin.set(1, 7, 12288 - v);
            twin.bound(0, 0, v);
            twin.bound(1, 7, 12288 - v);
            CHECK.due("prove()", twin.prove(), 0);
            CHECK.due("verify()", twin.verify(), 0);
        }
    }

    /** The column that has H^(d * r) in row r: its polynomial is a power where d is at most 7. */
    private static TraceProver powers(int d) {
        TraceProver x = new TraceProver();
        for (int r = 0; r < 8; r++) {
            x.set(0, r, (int) Model.power(Model.h(r), d));
        }
        return x;
    }

    private static void pointsAreThirtyTwo() {
        CHECK.sentence("Terms, Promise 7", "W .. (its powers are 32 numbers) .. X(i) = 11 * W^i, i = 0 .. 31");
        TraceProver x = powers(1);
        boolean[] seen = new boolean[P];
        long due = 11;
        for (int i = 0; i < 32; i++) {
            CHECK.due("X(" + i + ")", x.at(0, i), due);
            CHECK.due("X(" + i + ") is new", seen[(int) due], false);
            seen[(int) due] = true;
            due = due * Model.power(11, 384) % P;
        }
        CHECK.due("the point behind X(31)", due, 11);
    }

    private static void rowPointsAreEight() {
        CHECK.sentence("Terms, Promise 7", "H is W to the power of 4 (8 numbers)");
        TraceProver x = powers(1);
        long h = Model.power(11, 4 * 384);
        CHECK.due("H to the power of 8", Model.power(h, 8), 1);
        CHECK.due("H to the power of 4", Model.power(h, 4), 12288);
        for (int i = 0; i < 32; i++) {
            CHECK.due("X(" + i + ") * H", x.at(0, i) * h % P, x.at(0, (i + 4) % 32));
        }
    }

    private static void cellsAreZeroAtFirst() {
        CHECK.sentence("Terms, Promises 6 and 7", "numbers of the field, at first 0");
        TraceProver x = new TraceProver();
        for (int c = 0; c < 2; c++) {
            for (int r = 0; r < 8; r++) {
                CHECK.due("cell(" + c + ", " + r + ")", x.cell(c, r), 0);
            }
            for (int i = 0; i < 32; i++) {
                CHECK.due("at(" + c + ", " + i + ")", x.at(c, i), 0);
            }
        }
    }

    private static void degreeIsAtMostSeven() {
        CHECK.sentence("Terms, Promise 7", "of a degree of at most 7");
        for (int d = 0; d <= 16; d++) {
            TraceProver x = powers(d);
            for (int i = 0; i < 32; i++) {
                CHECK.due("degree " + d + ": at(0, " + i + ")", x.at(0, i), Model.power(Model.x(i), d % 8));
            }
        }
    }

    /** Two columns of 3 and 5 all through keep k * U * V less its number, until the cell of a letter changes. */
    private static void lettersAreTheRowAndTheRowBehind() {
        CHECK.sentence("Terms, Promise 8", "0: the number 1, 1 and 2: the columns 0 and 1 in a row, 3 and 4: .. in the row behind it");
        int[] numbers = {1, 3, 5, 3, 5};
        for (int u = 0; u < 5; u++) {
            for (int v = 0; v < 5; v++) {
                String name = "letters " + u + ", " + v;
                TraceProver x = new TraceProver();
                for (int r = 0; r < 8; r++) {
                    x.set(0, r, 3);
                    x.set(1, r, 5);
                }
                x.term(1, 7, u, v);
                x.term(1, P - 7 * numbers[u] * numbers[v], 0, 0);
                CHECK.due(name + ": wrong()", x.wrong(), TraceProver.NONE);
                for (int c = 0; c < 2; c++) {
                    x.set(c, 0, 11);
                    int first = u == 1 + c || v == 1 + c ? 0 : TraceProver.NONE;
                    CHECK.due(name + ", cell (" + c + ", 0) changed: wrong()", x.wrong(), first);
                    x.set(c, 0, numbers[1 + c]);
                    x.set(c, 7, 11);
                    int last = u == 3 + c || v == 3 + c ? 6 : TraceProver.NONE;
                    CHECK.due(name + ", cell (" + c + ", 7) changed: wrong()", x.wrong(), last);
                    x.set(c, 7, numbers[1 + c]);
                }
            }
        }
    }

    private static void rowSevenHasNoRowBehind() {
        CHECK.sentence("Terms, Promise 8", "Row r (0 .. 6) KEEPS a constraint .. Row r is WRONG if r is at most 6 and");
        TraceProver counting = new TraceProver();
        counting.term(0, 1, 3, 0);
        counting.term(0, 12288, 1, 0);
        counting.term(0, 12288, 0, 0);
        for (int r = 0; r < 8; r++) {
            counting.set(0, r, 12285 + r < P ? 12285 + r : 12285 + r - P);
        }
        CHECK.due("counting, over 12288 to 0, and not from row 7 to row 0: wrong()", counting.wrong(), TraceProver.NONE);
        CHECK.due("counting: prove()", counting.prove(), 0);
        CHECK.due("counting: verify()", counting.verify(), 0);
        counting.set(0, 7, 0);
        CHECK.due("row 7 does not follow row 6: wrong()", counting.wrong(), 6);
        TraceProver last = new TraceProver();
        last.term(1, 1, 2, 2);
        last.set(1, 7, 5);
        CHECK.due("row 7 asks nothing of its own: wrong()", last.wrong(), TraceProver.NONE);
        last.set(1, 6, 5);
        CHECK.due("row 6 does: wrong()", last.wrong(), 6);
    }

    private static void emptyConstraintIsKept() {
        CHECK.sentence("Terms, Promise 8", "if its terms sum up to 0 (with no terms)");
        TraceProver x = new TraceProver();
        x.set(0, 3, 12288);
        x.set(1, 3, 12288);
        x.term(1, 0, 4, 4);
        CHECK.due("constraint 0 empty: wrong()", x.wrong(), TraceProver.NONE);
        x.clear();
        x.bound(0, 3, 12288);
        CHECK.due("both empty: wrong()", x.wrong(), TraceProver.NONE);
    }

    private static void boundsOfRowSevenCount() {
        CHECK.sentence("Terms, Promise 8", "or some bound of a cell in it is not met");
        TraceProver x = new TraceProver();
        for (int n = 0; n < 4; n++) {
            x.bound(n % 2, 7, n < 2 ? 0 : 12288);
        }
        x.set(0, 7, 12288);
        x.set(1, 7, 12288);
        CHECK.due("the first and second bound not met: wrong()", x.wrong(), 7);
        x.set(0, 7, 0);
        x.set(1, 7, 0);
        CHECK.due("the third and fourth bound not met: wrong()", x.wrong(), 7);
    }

    /** Each term and each bound of full rules counts: with its number changed by 1, some row is wrong. */
    private static void rulesUpToTheLastCount() {
        CHECK.sentence("Terms, Promise 8", "up to 2 CONSTRAINTS, each with up to 6 TERMS .. up to 4 BOUNDS");
        for (int changed = -1; changed < 16; changed++) {
            TraceProver x = Samples.fullRules();
            x.clear();
            for (int t = 0; t < 12; t++) {
                int[] term = Samples.FULL_TERMS[t];
                int k = (term[1] + (t == changed ? 1 : 0)) % P;
                CHECK.due("term " + t, x.term(term[0], k, term[2], term[3]), 1 + t % 6);
            }
            for (int b = 0; b < 4; b++) {
                int[] bound = Samples.FULL_BOUNDS[b];
                int v = (bound[2] + (12 + b == changed ? 1 : 0)) % P;
                CHECK.due("bound " + b, x.bound(bound[0], bound[1], v), 1 + b);
            }
            int due = changed < 0 ? TraceProver.NONE : changed < 12 ? 0 : Samples.FULL_BOUNDS[changed - 12][1];
            CHECK.due("rule " + changed + " changed: wrong()", x.wrong(), due);
        }
    }

    private static void constraintsAreCountedToTheLast() {
        CHECK.sentence("Terms, Promise 13", "There are as many constraints as have to be for all that have terms: 2 if constraint 1 has some");
        TraceProver x = new TraceProver();
        x.set(0, 7, 5);
        x.bound(0, 7, 5);
        dueTalk("none has terms: 0", x, 0, 1, 0, 7, 5);
        x.clear();
        x.term(0, 6, 2, 4);
        dueTalk("constraint 0 has: 1", x, 1, 1, 6, 2, 4, 0);
        x.clear();
        x.term(1, 6, 2, 4);
        dueTalk("constraint 1 has: 2", x, 2, 0, 1, 6, 2, 4, 0);
        x.term(0, 0, 0, 0);
        dueTalk("both have: 2", x, 2, 1, 0, 0, 0, 1, 6, 2, 4, 0);
    }

    private static void transcriptIsOneAtFirst() {
        CHECK.sentence("Terms, Promises 9 and 12", "THE TRANSCRIPT is an int, 1 at first");
        TraceProver x = Samples.provedFibonacci();
        for (int n = 1; n <= 3; n++) {
            CHECK.due("verify(), time " + n, x.verify(), 0);
            CHECK.duePositions("time " + n, x, 8, 5, 4);
        }
        x.bound(0, 0, 1);
        x.verify();
        x.prove();
        x.clear();
        Samples.fibonacciRules(x);
        CHECK.due("prove() behind talks of other rules", x.prove(), 0);
        CHECK.dueProof("behind talks of other rules", x, Samples.fibonacciProof());
    }

    private static long over(long upper, long lower) {
        return Math.floorMod(upper, P) * Model.power(Math.floorMod(lower, P), P - 2) % P;
    }

    private static long[] composedOfRowBehind(TraceProver x, int c) {
        long[] values = new long[32];
        for (int i = 0; i < 32; i++) {
            long factor = over(Model.x(i) - Model.h(7), Model.power(Model.x(i), 8) - 1);
            values[i] = x.at(c, i + 4 < 32 ? i + 4 : i + 4 - 32) * factor % P;
        }
        return values;
    }

    /** One constraint, of one letter of the row behind: the composition is without a challenge. */
    private static void pointsBehindGoRound() {
        CHECK.sentence("Terms, Promise 9", "for the row behind at X(i + 4) (i + 4 modulo 32)");
        for (int c = 0; c < 2; c++) {
            TraceProver x = new TraceProver();
            x.set(c, 0, 12288);
            x.term(0, 1, 3 + c, 0);
            CHECK.due("letter " + (3 + c) + ": prove()", x.prove(), 0);
            int[] nodes = Script.layerTree(composedOfRowBehind(x, c));
            CHECK.due("letter " + (3 + c) + ": the root over layer 0", x.proof(1), nodes[1]);
        }
    }

    private static void openedPointsGoRound() {
        CHECK.sentence("Terms, Promises 10 and 12", "for i = j, j + 4, j + 16, j + 20 (modulo 32) both polynomials at X(i)");
        boolean[] seen = new boolean[16];
        for (int v = 1; v <= 120; v++) {
            TraceProver x = new TraceProver();
            x.set(1, 0, v);
            x.set(0, 7, v);
            x.term(0, 1, 4, 2);
            CHECK.due("table " + v + ": prove()", x.prove(), 0);
            CHECK.due("table " + v + ": verify()", x.verify(), 0);
            for (int k = 0; k < 3; k++) {
                int j = x.position(k);
                seen[j] = true;
                for (int q = 0; q < 4; q++) {
                    int i = (j + FOUR[q]) % 32;
                    int start = 5 + 58 * k + 7 * q;
                    CHECK.due("position " + j + ", point " + i + ": column 0", x.proof(start), x.at(0, i));
                    CHECK.due("position " + j + ", point " + i + ": column 1", x.proof(start + 1), x.at(1, i));
                }
            }
        }
        for (int j = 0; j < 16; j++) {
            CHECK.due("position " + j + " was seen", seen[j], true);
        }
    }

    private static void mixWraps() {
        CHECK.sentence("Terms, Promise 10", "(m ^ n) * 16777619 (wrapping), then m ^ (m >>> 15)");
        int[][] tables = {{0, 0}, {12288, 12288}, {0, 12288}, {12288, 0}, {1, 6144}};
        for (int[] table : tables) {
            TraceProver x = new TraceProver();
            for (int r = 0; r < 8; r++) {
                x.set(0, r, table[0]);
                x.set(1, r, table[1]);
            }
            x.bound(0, 0, table[0]);
            x.prove();
            String name = "columns of " + table[0] + " and " + table[1];
            CHECK.due(name + ": the first root", x.proof(0), Script.columnTree(x)[1]);
            int leaf = Script.mix(table[0], table[1]);
            CHECK.due(name + ": a leaf beside", x.proof(7), leaf);
            CHECK.due(name + ": a node beside", x.proof(8), Script.mix(leaf, leaf));
        }
        TraceProver x = Samples.provedFibonacci();
        CHECK.due("Fibonacci: the first root", x.proof(0), Script.columnTree(x)[1]);
    }

    /** Any cell changes all points of its column; that every leaf counts is told by the opened paths. */
    private static void treesHaveEveryLeaf() {
        CHECK.sentence("Terms, Promise 10", "node 2^k + i is leaf i, node n is MIX(node 2n, node 2n + 1) for n below 2^k");
        for (int c = 0; c < 2; c++) {
            for (int r = 0; r < 8; r++) {
                TraceProver x = new TraceProver();
                x.set(c, r, 12288);
                x.bound(c, r, 12288);
                x.prove();
                CHECK.due("cell (" + c + ", " + r + "): the first root", x.proof(0), Script.columnTree(x)[1]);
                CHECK.due("cell (" + c + ", " + r + "): the second root", x.proof(1), Script.layerTree(bounded(x, c, r, 12288))[1]);
            }
        }
    }

    /** Layer 0 with one bound as the only rule: the composition is without a challenge. */
    private static long[] bounded(TraceProver x, int c, int r, int v) {
        long[] values = new long[32];
        for (int i = 0; i < 32; i++) {
            values[i] = over(x.at(c, i) - v, Model.x(i) - Model.h(r));
        }
        return values;
    }

    private static void duePath(String name, TraceProver x, int from, int[] nodes, int leaf) {
        int place = from;
        for (int n = nodes.length / 2 + leaf; n > 1; n /= 2) {
            CHECK.due(name + ": the node beside node " + n, x.proof(place), nodes[n ^ 1]);
            place++;
        }
    }

    private static void pathsEndBelowTheRoot() {
        CHECK.sentence("Terms, Promise 10", "the nodes n ^ 1 for n = its own, n = half of that, and so on as long as n is more than 1");
        boolean[] seen = new boolean[32];
        for (int v = 1; v <= 90; v++) {
            TraceProver x = new TraceProver();
            x.set(1, 3, v);
            x.bound(1, 3, v);
            x.prove();
            x.verify();
            int[] columns = Script.columnTree(x);
            int[] layer = Script.layerTree(bounded(x, 1, 3, v));
            for (int k = 0; k < 3; k++) {
                int j = x.position(k);
                for (int q = 0; q < 4; q++) {
                    int i = (j + FOUR[q]) % 32;
                    seen[i] = true;
                    duePath("columns, leaf " + i, x, 5 + 58 * k + 7 * q + 2, columns, i);
                }
                duePath("layer 0, leaf " + j, x, 5 + 58 * k + 29, layer, j);
                duePath("layer 0, leaf " + (j + 16), x, 5 + 58 * k + 35, layer, j + 16);
            }
        }
        for (int i = 0; i < 32; i++) {
            CHECK.due("leaf " + i + " was opened", seen[i], true);
        }
    }

    /** The positions that the talk comes to when it is told these rules and the heads of the proof. */
    private static void dueTalk(String name, TraceProver x, int... rules) {
        CHECK.due(name + ": prove()", x.prove(), 0);
        CHECK.due(name + ": verify()", x.verify(), 0);
        Script script = new Script();
        script.tell(rules);
        for (int i = 0; i < 4; i++) {
            script.tell(x.proof(i));
            script.challenge();
        }
        script.tell(x.proof(4));
        for (int k = 0; k < 3; k++) {
            CHECK.due(name + ": position(" + k + ")", x.position(k), script.position());
        }
    }

    private static void talkOfFewAndOfFullRules() {
        CHECK.sentence("Terms, Promise 13", "is told: the number of constraints; for each its number of terms, .. the number of bounds");
        TraceProver x = new TraceProver();
        x.bound(1, 7, 0);
        dueTalk("no constraint, one bound", x, 0, 1, 1, 7, 0);
        x.clear();
        x.term(0, 5, 1, 2);
        dueTalk("constraint 0 alone", x, 1, 1, 5, 1, 2, 0);
        x.clear();
        x.term(1, 12288, 3, 4);
        dueTalk("constraint 1 alone: there are 2", x, 2, 0, 1, 12288, 3, 4, 0);
        x.term(0, 7, 2, 2);
        dueTalk("both", x, 2, 1, 7, 2, 2, 1, 12288, 3, 4, 0);
        x.bound(0, 0, 0);
        x.bound(1, 6, 0);
        dueTalk("both and two bounds", x, 2, 1, 7, 2, 2, 1, 12288, 3, 4, 2, 0, 0, 0, 1, 6, 0);
        int[] full = new int[1 + 2 * (1 + 6 * 3) + 1 + 4 * 3];
        int n = 0;
        full[n++] = 2;
        for (int t = 0; t < 12; t++) {
            if (t % 6 == 0) {
                full[n++] = 6;
            }
            for (int part = 1; part <= 3; part++) {
                full[n++] = Samples.FULL_TERMS[t][part];
            }
        }
        full[n++] = 4;
        for (int[] b : Samples.FULL_BOUNDS) {
            for (int part : b) {
                full[n++] = part;
            }
        }
        dueTalk("full rules", Samples.fullRules(), full);
    }

    private static void emptyConstraintIsNumbered() {
        CHECK.sentence("Terms, Promise 9", "numbered j = 0, 1, .. together, of A^j times (constraint 0 being empty)");
        TraceProver x = new TraceProver();
        x.set(0, 2, 77);
        x.term(1, 9, 2, 0);
        x.bound(0, 2, 77);
        x.prove();
        Script script = new Script();
        script.tell(2, 0, 1, 9, 2, 0, 1, 0, 2, 77, x.proof(0));
        long a = script.challenge();
        long[] values = bounded(x, 0, 2, 77);
        for (int i = 0; i < 32; i++) {
            values[i] = a * a % P * values[i] % P;
        }
        CHECK.due("a bound behind two constraints: the root over layer 0", x.proof(1), Script.layerTree(values)[1]);
        TraceProver y = new TraceProver();
        y.set(1, 0, 12288);
        y.term(1, 1, 4, 0);
        y.prove();
        script = new Script();
        script.tell(2, 0, 1, 1, 4, 0, 0, y.proof(0));
        a = script.challenge();
        values = composedOfRowBehind(y, 1);
        for (int i = 0; i < 32; i++) {
            values[i] = a * values[i] % P;
        }
        CHECK.due("constraint 1 behind an empty one: the root over layer 0", y.proof(1), Script.layerTree(values)[1]);
    }

    /** Layer l + 1 by the document's formula, halves and all. */
    private static long[] folded(int l, long[] values, long b) {
        int half = values.length / 2;
        long[] next = new long[half];
        for (int i = 0; i < half; i++) {
            long f = values[i];
            long g = values[i + half];
            long y = Model.power(Model.x(i), 1 << l);
            next[i] = (over(f + g, 2) + over(b * Math.floorMod(f - g, P), 2 * y)) % P;
        }
        return next;
    }

    private static void drawsAreFreeOfTheSign() {
        CHECK.sentence("Terms, Promises 9 and 13", "the challenge is (it & 2147483647) % 12289 .. the position is (it & 2147483647) % 16");
        boolean[][] seen = new boolean[7][2];
        for (int v = 1; v <= 40; v++) {
            TraceProver x = new TraceProver();
            x.set(0, 4, v);
            x.bound(1, 1, 0);
            x.bound(0, 4, v);
            x.prove();
            x.verify();
            Script script = new Script();
            script.tell(0, 2, 1, 1, 0, 0, 4, v, x.proof(0));
            long a = script.challenge();
            seen[0][script.isNegative() ? 1 : 0] = true;
            long[] values = bounded(x, 0, 4, v);
            for (int i = 0; i < 32; i++) {
                values[i] = (over(x.at(1, i), Model.x(i) - Model.h(1)) + a * values[i]) % P;
            }
            for (int l = 0; l < 3; l++) {
                CHECK.due("table " + v + ": the root over layer " + l, x.proof(1 + l), Script.layerTree(values)[1]);
                script.tell(x.proof(1 + l));
                values = folded(l, values, script.challenge());
                seen[1 + l][script.isNegative() ? 1 : 0] = true;
            }
            CHECK.due("table " + v + ": the rest", x.proof(4), values[0]);
            script.tell(x.proof(4));
            for (int k = 0; k < 3; k++) {
                CHECK.due("table " + v + ": position(" + k + ")", x.position(k), script.position());
                seen[4 + k][script.isNegative() ? 1 : 0] = true;
            }
        }
        for (int draw = 0; draw < 7; draw++) {
            CHECK.due("draw " + draw + " came from both signs", seen[draw][0] && seen[draw][1], true);
        }
    }

    private static void positionsAreBelowSixteen() {
        CHECK.sentence("Terms, Promise 13", "the position is (it & 2147483647) % 16");
        boolean[][] seen = new boolean[3][16];
        boolean twice = false;
        for (int v = 1; v <= 200; v++) {
            Twin twin = new Twin(CHECK, "table " + v);
            twin.set(0, 0, v);
            twin.bound(0, 0, v);
            twin.prove();
            CHECK.due("table " + v + ": verify()", twin.verify(), 0);
            for (int k = 0; k < 3; k++) {
                int j = twin.x.position(k);
                CHECK.due("table " + v + ": position(" + k + ") is 0 .. 15", j >= 0 && j < 16, true);
                seen[k][j & 15] = true;
            }
            twice |= twin.x.position(0) == twin.x.position(1);
        }
        for (int k = 0; k < 3; k++) {
            for (int j = 0; j < 16; j++) {
                CHECK.due("position(" + k + ") came to " + j, seen[k][j], true);
            }
        }
        CHECK.due("one place came twice in a talk", twice, true);
    }

    private static void layersAreHalved() {
        CHECK.sentence("Terms, Promises 9 and 10", "layer 1 has 16 values, layer 2 has 8, layer 3 has 4 .. the value 0 of layer 3 (THE REST)");
        boolean[] seen = new boolean[16];
        for (int v = 1; v <= 120; v++) {
            TraceProver x = new TraceProver();
            x.set(0, 5, v);
            x.bound(0, 5, v);
            x.prove();
            x.verify();
            Script script = new Script();
            script.tell(0, 1, 0, 5, v, x.proof(0));
            script.challenge();
            long[] values = bounded(x, 0, 5, v);
            int[] starts = {33, 45, 55};
            for (int l = 0; l < 3; l++) {
                int half = values.length / 2;
                int[] nodes = Script.layerTree(values);
                CHECK.due("table " + v + ": the root over layer " + l, x.proof(1 + l), nodes[1]);
                for (int k = 0; k < 3; k++) {
                    int first = x.position(k) % half;
                    int start = starts[l] + 58 * k;
                    CHECK.due("layer " + l + ", value " + first, x.proof(start), values[first]);
                    duePath("layer " + l + ", leaf " + first, x, start + 1, nodes, first);
                    int next = start + 6 - l;
                    CHECK.due("layer " + l + ", value " + (first + half), x.proof(next), values[first + half]);
                    duePath("layer " + l + ", leaf " + (first + half), x, next + 1, nodes, first + half);
                    seen[x.position(k)] = true;
                }
                script.tell(x.proof(1 + l));
                values = folded(l, values, script.challenge());
            }
            CHECK.due("layer 3 has 4 values", values.length, 4);
            CHECK.due("table " + v + ": the rest", x.proof(4), values[0]);
        }
        for (int j = 0; j < 16; j++) {
            CHECK.due("position " + j + " was seen", seen[j], true);
        }
    }

    private static void proofHas179Ints() {
        CHECK.sentence("Terms, Promises 10 and 11", "THE PROOF is a row of 179 ints");
        CHECK.due("its parts", 4 + 1 + 3 * (4 * (2 + 5) + 2 * (1 + 5) + 2 * (1 + 4) + 2 * (1 + 3)), 179);
        TraceProver x = Samples.provedFibonacci();
        x.verify();
        int j = x.position(2);
        CHECK.due("the last int is a node of layer 2's tree", x.proof(178), Samples.fibonacciModel().proof(178));
        CHECK.due("int 4 is the rest", x.proof(4), 8775);
        CHECK.due("int 5 is the first polynomial's value", x.proof(5), x.at(0, x.position(0)));
        CHECK.due("int 121 is that of the third position", x.proof(121), x.at(0, j));
        CHECK.due("alter(178, 0)", x.alter(178, 0), true);
        CHECK.due("alter(179, 0)", x.alter(179, 0), false);
    }
}
