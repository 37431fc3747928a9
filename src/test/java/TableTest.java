/** Promises 5 to 8: set, cell, at, wrong. */
public final class TableTest {
    private static final Check CHECK = new Check();
    private static final int[] OUTSIDE = {-1, 12289, Integer.MIN_VALUE, Integer.MAX_VALUE};

    public static void main(String[] args) {
        cellsAreKept();
        wrongCells();
        knownPolynomials();
        polynomialsAgainstModel();
        wrongPoints();
        wrongRowsOfSteps();
        wrongRowsOfBounds();
        wrongReckonsInTheField();
        CHECK.end();
    }

    private static void cellsAreKept() {
        TraceProver x = new TraceProver();
        for (int c = 0; c < 2; c++) {
            for (int r = 0; r < 8; r++) {
                CHECK.due("set", x.set(c, r, 12288 - 10 * c - r), true);
            }
        }
        for (int c = 0; c < 2; c++) {
            for (int r = 0; r < 8; r++) {
                CHECK.due("cell(" + c + ", " + r + ")", x.cell(c, r), 12288 - 10 * c - r);
            }
        }
        CHECK.due("set to 0", x.set(1, 7, 0), true);
        CHECK.due("cell set to 0", x.cell(1, 7), 0);
    }

    private static void wrongCells() {
        TraceProver x = new TraceProver();
        for (int bad : new int[] {-1, 2, Integer.MIN_VALUE, Integer.MAX_VALUE}) {
            CHECK.due("set in column " + bad, x.set(bad, 0, 1), false);
            CHECK.due("cell in column " + bad, x.cell(bad, 0), TraceProver.BAD);
        }
        for (int bad : new int[] {-1, 8, Integer.MIN_VALUE, Integer.MAX_VALUE}) {
            CHECK.due("set in row " + bad, x.set(1, bad, 1), false);
            CHECK.due("cell in row " + bad, x.cell(1, bad), TraceProver.BAD);
        }
        x.set(0, 5, 7);
        for (int bad : OUTSIDE) {
            CHECK.due("set to " + bad, x.set(0, 5, bad), false);
        }
        CHECK.due("a refused set changes nothing", x.cell(0, 5), 7);
    }

    private static void knownPolynomials() {
        TraceProver x = Samples.fibonacci();
        CHECK.due("at(0, 0) of Fibonacci's numbers", x.at(0, 0), 8623);
        CHECK.due("at(1, 31) of Fibonacci's numbers", x.at(1, 31), 2889);
        TraceProver same = new TraceProver();
        TraceProver line = new TraceProver();
        for (int r = 0; r < 8; r++) {
            same.set(1, r, 4711);
            line.set(0, r, (int) Model.h(r));
        }
        for (int i = 0; i < 32; i++) {
            CHECK.due("a column of one number at " + i, same.at(1, i), 4711);
            CHECK.due("the column beside it at " + i, same.at(0, i), 0);
            CHECK.due("the powers of H at " + i, line.at(0, i), Model.x(i));
        }
    }

    private static void polynomialsAgainstModel() {
        for (int c = 0; c < 2; c++) {
            for (int r = 0; r < 8; r++) {
                TraceProver x = new TraceProver();
                Model model = new Model();
                x.set(c, r, 12288);
                model.set(c, r, 12288);
                for (int i = 0; i < 32; i++) {
                    CHECK.due("cell (" + c + ", " + r + ") alone, at " + i, x.at(c, i), model.at(c, i));
                    CHECK.due("the other column, at " + i, x.at(1 - c, i), 0);
                }
            }
        }
    }

    private static void wrongPoints() {
        TraceProver x = Samples.fibonacci();
        for (int bad : new int[] {-1, 2, Integer.MIN_VALUE, Integer.MAX_VALUE}) {
            CHECK.due("at of column " + bad, x.at(bad, 0), TraceProver.BAD);
        }
        for (int bad : new int[] {-1, 32, 33, Integer.MIN_VALUE, Integer.MAX_VALUE}) {
            CHECK.due("at of point " + bad, x.at(0, bad), TraceProver.BAD);
        }
    }

    private static void wrongRowsOfSteps() {
        for (int r = 0; r < 8; r++) {
            TraceProver x = Samples.fibonacci();
            CHECK.due("Fibonacci's numbers: wrong()", x.wrong(), TraceProver.NONE);
            x.set(1, r, 12000);
            CHECK.due("cell (1, " + r + ") spoilt: wrong()", x.wrong(), r == 0 ? 0 : r - 1);
        }
        TraceProver last = new TraceProver();
        last.term(0, 1, 1, 0);
        last.set(0, 7, 5);
        CHECK.due("row 7 keeps every constraint", last.wrong(), TraceProver.NONE);
        last.set(0, 6, 5);
        CHECK.due("row 6 does not", last.wrong(), 6);
        TraceProver second = new TraceProver();
        second.term(1, 1, 2, 0);
        second.set(1, 4, 1);
        CHECK.due("constraint 1 without 0", second.wrong(), 4);
        second.term(0, 1, 1, 0);
        second.set(0, 2, 1);
        CHECK.due("the least row of both", second.wrong(), 2);
    }

    private static void wrongRowsOfBounds() {
        for (int r = 0; r < 8; r++) {
            TraceProver x = new TraceProver();
            x.bound(1, 7, 0);
            x.bound(0, r, 3);
            CHECK.due("bound of row " + r + " not met", x.wrong(), r);
            x.set(1, r, 3);
            CHECK.due("bound of row " + r + " met in the other column", x.wrong(), r);
            x.set(1, r, 0);
            x.set(0, r, 3);
            CHECK.due("bound of row " + r + " met", x.wrong(), TraceProver.NONE);
        }
        TraceProver x = new TraceProver();
        x.bound(0, 6, 1);
        x.bound(0, 3, 1);
        CHECK.due("the least row of two bounds", x.wrong(), 3);
        x.term(0, 1, 0, 0);
        CHECK.due("a constraint before both", x.wrong(), 0);
    }

    private static void wrongReckonsInTheField() {
        TraceProver x = new TraceProver();
        x.term(0, 12288, 1, 2);
        x.term(0, 12288, 0, 0);
        for (int r = 0; r < 8; r++) {
            x.set(0, r, 12288);
            x.set(1, r, 1);
        }
        CHECK.due("12288 * 12288 * 1 + 12288 is 0", x.wrong(), TraceProver.NONE);
        x.clear();
        x.term(0, 12288, 4, 3);
        x.term(0, 12288, 3, 3);
        x.term(0, 2, 0, 0);
        x.term(0, 12288, 2, 2);
        x.term(0, 12288, 2, 1);
        CHECK.due("1 - 1 + 2 - 1 + 1", x.wrong(), 0);
        x.term(0, 12287, 0, 0);
        CHECK.due("less 2", x.wrong(), TraceProver.NONE);
    }
}
