import java.util.Arrays;

/** Promises 12 and 13: verify, position; a test for each sentence that names a case. */
public final class VerifyTest {
    private static final Check CHECK = new Check();
    /** Where the first node of a path stands, for position 0: of the columns and of the three layers. */
    private static final int[] PATHS = {7, 34, 46, 56};

    public static void main(String[] args) {
        CHECK.run(
            VerifyTest::verifyWithoutProof,
            VerifyTest::verifyWithoutRules,
            VerifyTest::verifyWithOtherRules,
            VerifyTest::verifyLooksAtTheOpeningsAlone,
            VerifyTest::everyValueOutOfTheField,
            VerifyTest::rootsAndPathsAreAnyInts,
            VerifyTest::outOfTheFieldComesFirst,
            VerifyTest::pathsOfTheColumns,
            VerifyTest::pathsOfLayer0,
            VerifyTest::pathsOfLayer1,
            VerifyTest::pathsOfLayer2,
            VerifyTest::forgedComposition,
            VerifyTest::foldOfLayer0HasIndexJ,
            VerifyTest::foldOfLayer1HasIndexJ,
            VerifyTest::foldOfLayer2IsTheRest,
            VerifyTest::forgedValuesAgainstModel,
            VerifyTest::firstFaultIsTheCode,
            VerifyTest::positionsAreGoneThroughInOrder,
            VerifyTest::allIsSo,
            VerifyTest::positionOfTheLatest,
            VerifyTest::positionBeforeAnyVerify,
            VerifyTest::positionBehindNone,
            VerifyTest::positionBehindBad,
            VerifyTest::positionBehindOne,
            VerifyTest::positionBehindEachOtherCode,
            VerifyTest::positionOutside);
        CHECK.end();
    }

    private static void verifyWithoutProof() {
        CHECK.sentence("Promise 12", "NONE when there is no proof");
        TraceProver x = new TraceProver();
        CHECK.due("neither proof nor rules", x.verify(), TraceProver.NONE);
        x.bound(0, 0, 1);
        CHECK.due("no proof", x.verify(), TraceProver.NONE);
        x.prove();
        CHECK.due("no proof behind a refused prove()", x.verify(), TraceProver.NONE);
        x.alter(0, 1);
        CHECK.due("no proof behind a refused alter()", x.verify(), TraceProver.NONE);
        x.set(0, 0, 1);
        x.prove();
        CHECK.due("a proof", x.verify(), 0);
    }

    private static void verifyWithoutRules() {
        CHECK.sentence("Promise 12", "BAD when there are no rules at all");
        TraceProver x = Samples.provedFibonacci();
        x.clear();
        CHECK.due("no rules", x.verify(), TraceProver.BAD);
        x.term(0, 12289, 0, 0);
        x.bound(0, 8, 0);
        CHECK.due("refused rules alone", x.verify(), TraceProver.BAD);
        x.alter(4, -1);
        CHECK.due("no rules and a rest out of the field", x.verify(), TraceProver.BAD);
        x.term(1, 0, 0, 0);
        CHECK.due("a term of constraint 1 alone", x.verify(), 1);
        x.clear();
        x.term(0, 0, 0, 0);
        CHECK.due("a term of constraint 0 alone", x.verify(), 1);
        x.clear();
        x.bound(0, 0, 0);
        CHECK.due("a bound alone", x.verify(), 1);
    }

    private static void verifyWithOtherRules() {
        CHECK.sentence("Promise 12", "the talk is gone through with the rules as they are");
        TraceProver x = new TraceProver();
        x.bound(1, 2, 0);
        x.prove();
        x.bound(0, 7, 12288);
        CHECK.due("a table of zeros and one more bound", x.verify(), 4);
        x = Samples.provedFibonacci();
        x.term(1, 0, 4, 4);
        CHECK.due("one more term that asks nothing", x.verify() > 1, true);
        x = Samples.provedFibonacci();
        x.bound(0, 1, 1);
        CHECK.due("one more bound that is met", x.verify() > 1, true);
        x.clear();
        Samples.fibonacciRules(x);
        CHECK.due("the rules of the proof again", x.verify(), 0);
    }

    private static void verifyLooksAtTheOpeningsAlone() {
        CHECK.sentence("Promise 12", "the verifier looks at these openings alone");
        TraceProver x = Samples.provedFibonacci();
        for (int r = 0; r < 8; r++) {
            x.set(0, r, 12288);
            x.set(1, r, 0);
        }
        CHECK.due("the table spoilt behind the proof", x.verify(), 0);
        CHECK.duePositions("the table spoilt behind the proof", x, 8, 5, 4);
    }

    private static boolean isValue(int i) {
        int place = (i - 5) % 58;
        return i == 4 || i > 4 && (place < 28 && place % 7 < 2
            || place == 28 || place == 34 || place == 40 || place == 45 || place == 50 || place == 54);
    }

    /** What is opened stands under codes 2, 3, 5 and 7, in the order of the row, for each position. */
    private static int codeOfPlace(int i) {
        int place = (i - 5) % 58;
        if (place < 28) {
            return 2;
        }
        if (place < 40) {
            return 3;
        }
        return place < 50 ? 5 : 7;
    }

    private static void everyValueOutOfTheField() {
        CHECK.sentence("Promise 12", "1: all its polynomials', layers' values and the rest are 0 .. 12288");
        int values = 0;
        for (int i = 4; i < Model.LENGTH; i++) {
            if (isValue(i)) {
                values++;
                TraceProver x = Samples.provedFibonacci();
                for (int v : Outside.FIELD) {
                    x.alter(i, v);
                    CHECK.due("int " + i + " becomes " + v + ": verify()", x.verify(), 1);
                }
                x.alter(i, 12288);
                CHECK.due("int " + i + " becomes 12288: verify()", x.verify() > 1, true);
                x.alter(i, 0);
                CHECK.due("int " + i + " becomes 0: verify()", x.verify() > 1, true);
            }
        }
        CHECK.due("values in a proof", values, 1 + 3 * (8 + 6));
    }

    private static void rootsAndPathsAreAnyInts() {
        CHECK.sentence("Promise 12", "1: (of roots and paths nothing is asked)");
        int[] row = Samples.fibonacciProof();
        for (int i = 0; i < Model.LENGTH; i++) {
            if (!isValue(i)) {
                TraceProver x = Samples.provedFibonacci();
                for (int v : new int[] {-1, 12289, Integer.MIN_VALUE, Integer.MAX_VALUE}) {
                    x.alter(i, v);
                    int code = x.verify();
                    CHECK.due("int " + i + " becomes " + v + ": verify()", i < 4 ? code > 1 : code == codeOfPlace(i), true);
                    CHECK.due("int " + i + " becomes " + v + ": position(0)", x.position(0) >= 0, true);
                }
                x.alter(i, row[i]);
                CHECK.due("int " + i + " as it was: verify()", x.verify(), 0);
            }
        }
    }

    private static void outOfTheFieldComesFirst() {
        CHECK.sentence("Promise 12", "The first of these that is not so is the code (1 before all positions)");
        TraceProver x = Samples.provedFibonacci();
        x.alter(7, 1);
        CHECK.due("a path of position 0 spoilt", x.verify(), 2);
        x.alter(175, 12289);
        CHECK.due("and the last value out of the field", x.verify(), 1);
        x.alter(0, 0);
        x.alter(175, -1);
        CHECK.due("and the first root spoilt", x.verify(), 1);
    }

    private static void pathsOfTheColumns() {
        CHECK.sentence("Promise 12", "2: each of the four paths leads from its leaf to the first root");
        dueWhereAltered(2, 3 * 4 * 7);
    }

    private static void pathsOfLayer0() {
        CHECK.sentence("Promise 12", "3: both paths of layer 0 to the second");
        dueWhereAltered(3, 3 * 2 * 6);
    }

    private static void pathsOfLayer1() {
        CHECK.sentence("Promise 12", "5: both paths of layer 1 to the third root");
        dueWhereAltered(5, 3 * 2 * 5);
    }

    private static void pathsOfLayer2() {
        CHECK.sentence("Promise 12", "7: both paths of layer 2 to the fourth root");
        dueWhereAltered(7, 3 * 2 * 4);
    }

    private static void dueWhereAltered(int code, int places) {
        int[] row = Samples.fibonacciProof();
        int seen = 0;
        for (int i = 5; i < row.length; i++) {
            if (codeOfPlace(i) == code) {
                seen++;
                TraceProver x = Samples.provedFibonacci();
                x.alter(i, row[i] == 4321 ? 4322 : 4321);
                CHECK.due("int " + i + " altered: verify()", x.verify(), code);
                CHECK.duePositions("int " + i + " altered", x, 8, 5, 4);
                x.alter(i, row[i]);
                CHECK.due("int " + i + " as it was: verify()", x.verify(), 0);
            }
        }
        CHECK.due("ints under that code", seen, places);
    }

    /** A dishonest prover's hand that adds to the values first .. end - 1 of one stage. */
    private static Model.Tamper addTo(int stage, int delta, int first, int end) {
        return (seen, values) -> {
            if (seen == stage) {
                for (int i = first; i < Math.min(end, values.length); i++) {
                    values[i] = (values[i] + delta) % Model.P;
                }
            }
        };
    }

    private static Model.Tamper addToAll(int stage) {
        return addTo(stage, 1, 0, 32);
    }

    private static TraceProver holding(int[] row) {
        TraceProver x = Samples.provedFibonacci();
        Samples.write(x, row);
        return x;
    }

    /** Hands a forged row to the class and to the model, and answers with the code. */
    private static int codeOf(String what, Model model, int[] row) {
        TraceProver x = holding(row);
        for (int i = 0; i < row.length; i++) {
            model.alter(i, row[i]);
        }
        int code = x.verify();
        CHECK.due(what + ": verify()", code, model.verify());
        CHECK.duePositions(what, x, model.position(0), model.position(1), model.position(2));
        return code;
    }

    private static void forgedComposition() {
        CHECK.sentence("Promise 12", "4: both values of layer 0 are what the composition makes of the polynomials' values in it");
        Model model = Samples.fibonacciModel();
        CHECK.due("layer 0 forged", codeOf("layer 0", model, model.forge(addToAll(0))), 4);
        CHECK.due("its first half alone", codeOf("first half", model, model.forge(addTo(0, 1, 0, 16))), 4);
        CHECK.due("its second half alone", codeOf("second half", model, model.forge(addTo(0, 1, 16, 32))), 4);
        model.set(1, 3, 0);
        int[] row = model.forge((stage, values) -> { });
        CHECK.due("a wrong table, composed as the rules ask", codeOf("wrong table", model, row) > 4, true);
    }

    private static void foldOfLayer2IsTheRest() {
        CHECK.sentence("Promise 12", "9: what layer 2's are folded to is the rest");
        Model model = Samples.fibonacciModel();
        CHECK.due("the rest forged", codeOf("the rest", model, model.forge(addToAll(Model.REST))), 9);
        Model.Tamper least = (stage, values) -> {
            if (stage == Model.REST) {
                values[0] = 0;
            }
        };
        CHECK.due("the rest forged to 0", codeOf("the rest of 0", model, model.forge(least)), 9);
    }

    private static void foldOfLayer0HasIndexJ() {
        CHECK.sentence("Promise 12", "6: what layer 0's values are folded to is the value of layer 1 with the index j");
        dueFoldedHalf(1, 16, 6);
    }

    private static void foldOfLayer1HasIndexJ() {
        CHECK.sentence("Promise 12", "8: what layer 1's are folded to is the value of layer 2 with the index j % 8");
        dueFoldedHalf(2, 8, 8);
    }

    /** Only an index in the first half can tell that this half is forged: all behind it was made of it. */
    private static void dueFoldedHalf(int layer, int size, int code) {
        Model model = Samples.fibonacciModel();
        CHECK.due("layer " + layer + " forged whole", codeOf("layer " + layer, model, model.forge(addToAll(layer))), code);
        boolean[] seen = new boolean[size];
        for (int delta = 1; delta <= 150; delta++) {
            TraceProver x = holding(model.forge(addTo(layer, delta, 0, size / 2)));
            int got = x.verify();
            int index = x.position(0) % size;
            seen[index] = true;
            if (index < size / 2) {
                CHECK.due("forged by " + delta + ", index " + index + ": verify()", got, code);
            } else if (x.position(1) % size >= size / 2 && x.position(2) % size >= size / 2) {
                CHECK.due("forged by " + delta + ", no index in that half: verify() is " + code, got == code, false);
            }
        }
        for (int index = 0; index < size; index++) {
            CHECK.due("index " + index + " was seen", seen[index], true);
        }
    }

    private static void forgedValuesAgainstModel() {
        CHECK.sentence("Promise 12", "Verifies the proof: the code (one value forged)");
        Model model = Samples.fibonacciModel();
        boolean[] seen = new boolean[10];
        for (int stage = Model.COLUMN_0; stage < Model.REST; stage++) {
            int size = stage <= 0 ? 32 : 32 >> stage;
            for (int i = 0; i < size; i++) {
                String what = "value " + i + " of stage " + stage + " forged";
                seen[codeOf(what, model, model.forge(addTo(stage, 5000, i, i + 1)))] = true;
            }
        }
        CHECK.due("codes 0, 4, 6, 8 and 9 were seen: " + Arrays.toString(seen),
            seen[0] && seen[4] && seen[6] && seen[8] && seen[9], true);
    }

    private static void spoilPath(int[] row, int path) {
        row[PATHS[path]]++;
    }

    private static void firstFaultIsTheCode() {
        CHECK.sentence("Promise 12", "The first of these that is not so is the code");
        Model model = Samples.fibonacciModel();
        int[] row = model.forge(addToAll(Model.REST));
        spoilPath(row, 3);
        CHECK.due("7 and 9", codeOf("7 and 9", model, row), 7);
        spoilPath(row, 2);
        CHECK.due("5, 7 and 9", codeOf("5, 7 and 9", model, row), 5);
        spoilPath(row, 1);
        CHECK.due("3, 5, 7 and 9", codeOf("3, 5, 7 and 9", model, row), 3);
        spoilPath(row, 0);
        CHECK.due("2, 3, 5, 7 and 9", codeOf("2, 3, 5, 7 and 9", model, row), 2);
        row = model.forge(addToAll(0));
        spoilPath(row, 2);
        CHECK.due("4 and 5", codeOf("4 and 5", model, row), 4);
        spoilPath(row, 1);
        CHECK.due("3, 4 and 5", codeOf("3, 4 and 5", model, row), 3);
        row = model.forge(addToAll(1));
        spoilPath(row, 3);
        CHECK.due("6 and 7", codeOf("6 and 7", model, row), 6);
        spoilPath(row, 2);
        CHECK.due("5, 6 and 7", codeOf("5, 6 and 7", model, row), 5);
        Model.Tamper both = (stage, values) -> {
            addToAll(2).change(stage, values);
            addToAll(Model.REST).change(stage, values);
        };
        row = model.forge(both);
        CHECK.due("8 and 9", codeOf("8 and 9", model, row), 8);
        spoilPath(row, 3);
        CHECK.due("7, 8 and 9", codeOf("7, 8 and 9", model, row), 7);
    }

    private static void positionsAreGoneThroughInOrder() {
        CHECK.sentence("Promise 12", "Then for each position j in order");
        Model model = Samples.fibonacciModel();
        int[] row = model.forge(addToAll(Model.REST));
        row[63] = (row[63] + 1) % Model.P;
        CHECK.due("9 at position 0, 2 at position 1", codeOf("9, then 2", model, row), 9);
        row = Samples.fibonacciProof();
        row[178]++;
        CHECK.due("7 at position 2", codeOf("7 last", model, row), 7);
        row[5 + 58 + 40]++;
        row[5 + 58 + 40] %= Model.P;
        CHECK.due("5 at position 1, 7 at position 2", codeOf("5, then 7", model, row), 5);
        row[62]++;
        CHECK.due("7 at position 0, 5 at position 1", codeOf("7, then 5, then 7", model, row), 7);
    }

    private static void allIsSo() {
        CHECK.sentence("Promise 12", "0 if all is so");
        CHECK.due("Fibonacci's numbers", Samples.provedFibonacci().verify(), 0);
        TraceProver full = Samples.fullRules();
        full.prove();
        CHECK.due("full rules", full.verify(), 0);
        CHECK.due("full rules, a second time", full.verify(), 0);
        CHECK.due("a proof from elsewhere", holding(Samples.fibonacciModel().forge((stage, values) -> { })).verify(), 0);
        TraceProver zeros = new TraceProver();
        zeros.bound(1, 2, 0);
        zeros.prove();
        CHECK.due("a table of zeros", zeros.verify(), 0);
    }

    private static void positionOfTheLatest() {
        CHECK.sentence("Promise 13", "Position k (0 .. 2) that the talk of the latest verify() came to");
        TraceProver x = Samples.provedFibonacci();
        x.verify();
        CHECK.duePositions("Fibonacci", x, 8, 5, 4);
        x.set(0, 0, 99);
        x.prove();
        CHECK.duePositions("a refused prove() is no verify()", x, 8, 5, 4);
        x.clear();
        x.bound(0, 0, 99);
        x.prove();
        CHECK.duePositions("prove() is no verify()", x, 8, 5, 4);
        CHECK.due("another proof: verify()", x.verify(), 0);
        Model model = Samples.fibonacciModel();
        model.set(0, 0, 99);
        model.clear();
        model.bound(0, 0, 99);
        model.prove();
        model.verify();
        CHECK.duePositions("another proof", x, model.position(0), model.position(1), model.position(2));
        CHECK.due("they are others than before", model.position(0) == 8 && model.position(1) == 5, false);
    }

    private static void positionBeforeAnyVerify() {
        CHECK.sentence("Promise 13", "NONE when there was none");
        CHECK.dueNoPositions("new", new TraceProver());
        CHECK.dueNoPositions("proved, not verified", Samples.provedFibonacci());
    }

    private static void positionBehindNone() {
        CHECK.sentence("Promise 13", "when it answered NONE");
        TraceProver x = Samples.fibonacci();
        CHECK.due("verify()", x.verify(), TraceProver.NONE);
        CHECK.dueNoPositions("behind NONE", x);
        x.prove();
        CHECK.dueNoPositions("behind NONE and prove()", x);
    }

    private static void positionBehindBad() {
        CHECK.sentence("Promise 13", "when it answered BAD");
        TraceProver x = Samples.provedFibonacci();
        x.verify();
        x.clear();
        CHECK.duePositions("behind clear() alone", x, 8, 5, 4);
        CHECK.due("verify()", x.verify(), TraceProver.BAD);
        CHECK.dueNoPositions("behind BAD", x);
        Samples.fibonacciRules(x);
        CHECK.dueNoPositions("behind BAD and rules again", x);
        x.verify();
        CHECK.duePositions("verified again", x, 8, 5, 4);
    }

    private static void positionBehindOne() {
        CHECK.sentence("Promise 13", "when it answered 1");
        for (int place : new int[] {4, 5, 33, 175}) {
            TraceProver x = Samples.provedFibonacci();
            x.verify();
            int was = x.proof(place);
            x.alter(place, 12289);
            CHECK.duePositions("behind alter() alone", x, 8, 5, 4);
            CHECK.due("verify()", x.verify(), 1);
            CHECK.dueNoPositions("behind 1", x);
            x.alter(place, was);
            CHECK.dueNoPositions("behind 1 and alter()", x);
            x.verify();
            CHECK.duePositions("verified again", x, 8, 5, 4);
        }
    }

    private static void positionBehindEachOtherCode() {
        CHECK.sentence("Promise 13", "Position k (0 .. 2) that the talk came to (with the codes 2 .. 9)");
        Model model = Samples.fibonacciModel();
        int[][] rows = new int[10][];
        for (int path = 0; path < 4; path++) {
            int code = new int[] {2, 3, 5, 7}[path];
            rows[code] = Samples.fibonacciProof();
            spoilPath(rows[code], path);
        }
        for (int stage = 0; stage <= Model.REST; stage++) {
            rows[new int[] {4, 6, 8, 9}[stage]] = model.forge(addToAll(stage));
        }
        for (int code = 2; code <= 9; code++) {
            CHECK.due("code " + code, codeOf("code " + code, model, rows[code]), code);
            CHECK.due("position(2) is one", model.position(2) >= 0, true);
        }
    }

    private static void positionOutside() {
        CHECK.sentence("Promise 13", "or when k is not 0 .. 2");
        TraceProver x = Samples.provedFibonacci();
        x.verify();
        for (int bad : Outside.POSITIONS) {
            CHECK.due("position(" + bad + ")", x.position(bad), TraceProver.NONE);
        }
        CHECK.duePositions("behind these", x, 8, 5, 4);
    }
}
