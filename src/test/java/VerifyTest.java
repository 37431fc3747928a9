import java.util.Arrays;

/** Promises 12 and 13: verify, position. */
public final class VerifyTest {
    private static final Check CHECK = new Check();

    public static void main(String[] args) {
        knownPositions();
        noProofNoRules();
        everyPlaceAltered();
        everyPlaceOutOfTheField();
        rulesAreToldToTheTalk();
        tableIsNotLookedAt();
        forgedLayers();
        forgedColumns();
        firstFaultIsTheCode();
        positionsAfterRefusals();
        CHECK.end();
    }

    private static void knownPositions() {
        TraceProver x = Samples.provedFibonacci();
        CHECK.due("before verify(): position(0)", x.position(0), TraceProver.NONE);
        CHECK.due("verify()", x.verify(), 0);
        duePositions("Fibonacci", x, 8, 5, 4);
        for (int bad : new int[] {-1, 3, 4, Integer.MIN_VALUE, Integer.MAX_VALUE}) {
            CHECK.due("position(" + bad + ")", x.position(bad), TraceProver.NONE);
        }
        x.set(0, 0, 99);
        x.prove();
        duePositions("a refused prove() changes no position", x, 8, 5, 4);
        x.clear();
        x.bound(0, 0, 99);
        x.prove();
        duePositions("prove() changes no position", x, 8, 5, 4);
    }

    private static void noProofNoRules() {
        TraceProver x = new TraceProver();
        CHECK.due("neither proof nor rules", x.verify(), TraceProver.NONE);
        x.bound(0, 0, 0);
        CHECK.due("no proof", x.verify(), TraceProver.NONE);
        x.prove();
        CHECK.due("both", x.verify(), 0);
        x.clear();
        CHECK.due("no rules", x.verify(), TraceProver.BAD);
        x.alter(4, -1);
        CHECK.due("no rules and a bad rest", x.verify(), TraceProver.BAD);
    }

    /** What is opened stands under codes 2, 3, 5 and 7, in the order of the row, for each position. */
    private static int codeOfPlace(int i) {
        int place = (i - 5) % 58;
        if (place < 28) {
            return 2;
        }
        if (place < 40) {
            return 3;
        }
        return place < 50 ? 5 : 7;
    }

    private static boolean isValue(int i) {
        int place = (i - 5) % 58;
        return i == 4 || i > 4 && (place < 28 && place % 7 < 2
            || place == 28 || place == 34 || place == 40 || place == 45 || place == 50 || place == 54);
    }

    private static void everyPlaceAltered() {
        int[] row = Samples.fibonacciProof();
        for (int i = 5; i < row.length; i++) {
            TraceProver x = Samples.provedFibonacci();
            x.alter(i, row[i] == 4321 ? 4322 : 4321);
            CHECK.due("int " + i + " altered", x.verify(), codeOfPlace(i));
            duePositions("int " + i + " altered", x, 8, 5, 4);
            x.alter(i, row[i]);
            CHECK.due("int " + i + " as it was", x.verify(), 0);
        }
        for (int i = 0; i < 5; i++) {
            TraceProver x = Samples.provedFibonacci();
            x.alter(i, (row[i] + 1) % Model.P);
            CHECK.due("a root or the rest altered", x.verify() > 1, true);
        }
    }

    private static void everyPlaceOutOfTheField() {
        for (int i = 4; i < Model.LENGTH; i++) {
            TraceProver x = Samples.provedFibonacci();
            for (int v : new int[] {-1, 12289, Integer.MIN_VALUE, Integer.MAX_VALUE}) {
                x.alter(i, v);
                CHECK.due("int " + i + " becomes " + v, x.verify(), isValue(i) ? 1 : codeOfPlace(i));
                CHECK.due("its positions", x.position(0), isValue(i) ? TraceProver.NONE : 8);
            }
            x.alter(i, 12288);
            CHECK.due("int " + i + " becomes 12288", x.verify() == 1, false);
            x.alter(i, 0);
            CHECK.due("int " + i + " becomes 0", x.verify() == 1, false);
        }
        for (int i = 0; i < 4; i++) {
            TraceProver x = Samples.provedFibonacci();
            x.alter(i, -1);
            CHECK.due("a root may be any int", x.verify() > 1, true);
        }
        TraceProver x = Samples.provedFibonacci();
        x.alter(7, 1);
        x.alter(175, 12289);
        CHECK.due("a bad path first, a number out of the field last", x.verify(), 1);
    }

    private static void rulesAreToldToTheTalk() {
        TraceProver x = new TraceProver();
        x.bound(1, 2, 0);
        x.prove();
        x.bound(0, 7, 12288);
        CHECK.due("a table of zeros and one more bound", x.verify(), 4);
        x = Samples.provedFibonacci();
        x.term(1, 0, 4, 4);
        CHECK.due("one more term that asks nothing", x.verify() > 1, true);
        x = Samples.provedFibonacci();
        x.bound(0, 1, 1);
        CHECK.due("one more bound that is met", x.verify() > 1, true);
    }

    private static void tableIsNotLookedAt() {
        TraceProver x = Samples.provedFibonacci();
        x.set(1, 3, 0);
        CHECK.due("the table spoilt behind the proof", x.verify(), 0);
        duePositions("the table spoilt behind the proof", x, 8, 5, 4);
    }

    private static Model fibonacciModel() {
        Model model = new Model();
        model.term(0, 1, 3, 0);
        model.term(0, 12288, 2, 0);
        model.term(1, 1, 4, 0);
        model.term(1, 12288, 1, 0);
        model.term(1, 12288, 2, 0);
        model.bound(0, 0, 1);
        model.bound(1, 7, 34);
        TraceProver x = Samples.fibonacci();
        for (int r = 0; r < 8; r++) {
            model.set(0, r, x.cell(0, r));
            model.set(1, r, x.cell(1, r));
        }
        model.prove();
        return model;
    }

    private static Model.Tamper addTo(int stage, int delta, int first, int step) {
        return (seen, values) -> {
            if (seen == stage) {
                for (int i = first; i < values.length; i += step) {
                    values[i] = (values[i] + delta) % Model.P;
                }
            }
        };
    }

    /** Hands a forged row to the class and to the model, and answers with the code. */
    private static int codeOfForged(String what, Model model, int[] row) {
        TraceProver x = Samples.provedFibonacci();
        Samples.write(x, row);
        for (int i = 0; i < row.length; i++) {
            model.alter(i, row[i]);
        }
        int code = x.verify();
        CHECK.due(what + ": verify()", code, model.verify());
        for (int k = 0; k < 3; k++) {
            CHECK.due(what + ": position(" + k + ")", x.position(k), model.position(k));
        }
        return code;
    }

    private static void forgedLayers() {
        Model model = fibonacciModel();
        int[] codes = {4, 6, 8, 9};
        for (int stage = 0; stage <= Model.REST; stage++) {
            int[] row = model.forge(addTo(stage, 1, 0, 1));
            CHECK.due("stage " + stage + " forged whole", codeOfForged("stage " + stage, model, row), codes[stage]);
        }
        boolean[] seen = new boolean[10];
        for (int stage = 0; stage < Model.REST; stage++) {
            for (int i = 0; i < 32 >> stage; i++) {
                String what = "value " + i + " of layer " + stage + " forged";
                seen[codeOfForged(what, model, model.forge(addTo(stage, 5000, i, 32)))] = true;
            }
        }
        CHECK.due("forged values seen at the composition and in the folds: " + Arrays.toString(seen),
            seen[4] && seen[6] && seen[8] && seen[9], true);
    }

    private static void forgedColumns() {
        Model model = fibonacciModel();
        for (int i = 0; i < 32; i++) {
            codeOfForged("column 0 forged at " + i, model, model.forge(addTo(Model.COLUMN_0, 7, i, 32)));
            codeOfForged("column 1 forged at " + i, model, model.forge(addTo(Model.COLUMN_1, 7, i, 32)));
        }
        model.set(1, 3, 0);
        codeOfForged("a proof of a wrong table", model, model.forge((stage, values) -> { }));
    }

    private static void firstFaultIsTheCode() {
        Model model = fibonacciModel();
        int[] row = model.forge(addTo(Model.REST, 1, 0, 1));
        row[63] = (row[63] + 1) % Model.P;
        CHECK.due("position 0 whole before position 1", codeOfForged("rest and position 1", model, row), 9);
        row[61]++;
        CHECK.due("layer 2's path before the rest", codeOfForged("and a path of layer 2", model, row), 7);
        row[46]++;
        CHECK.due("layer 1's path before layer 2's", codeOfForged("and a path of layer 1", model, row), 5);
        row[40]++;
        CHECK.due("layer 0's path before layer 1's", codeOfForged("and a path of layer 0", model, row), 3);
        row[32]++;
        CHECK.due("the columns' paths before layer 0's", codeOfForged("and a path of the columns", model, row), 2);
        int[] composed = model.forge(addTo(0, 1, 0, 1));
        composed[46]++;
        composed[54]++;
        CHECK.due("the composition before layer 1's path", codeOfForged("layer 0 forged", model, composed), 4);
        int[] folded = model.forge(addTo(1, 1, 0, 1));
        folded[56]++;
        CHECK.due("the fold of layer 0 before layer 2's path", codeOfForged("layer 1 forged", model, folded), 6);
    }

    private static void positionsAfterRefusals() {
        TraceProver x = Samples.provedFibonacci();
        x.verify();
        int rest = x.proof(4);
        x.alter(4, 12289);
        CHECK.due("the rest out of the field", x.verify(), 1);
        duePositions("code 1", x, TraceProver.NONE, TraceProver.NONE, TraceProver.NONE);
        x.alter(4, rest);
        duePositions("alter() is no verify()", x, TraceProver.NONE, TraceProver.NONE, TraceProver.NONE);
        x.verify();
        duePositions("verified again", x, 8, 5, 4);
        x.clear();
        duePositions("clear() is no verify()", x, 8, 5, 4);
        x.verify();
        duePositions("BAD", x, TraceProver.NONE, TraceProver.NONE, TraceProver.NONE);
    }

    private static void duePositions(String when, TraceProver x, int first, int second, int third) {
        CHECK.due(when + ": position(0)", x.position(0), first);
        CHECK.due(when + ": position(1)", x.position(1), second);
        CHECK.due(when + ": position(2)", x.position(2), third);
    }
}
