/** Promises 5 to 8: set, cell, at, wrong; a test for each sentence that names a case. */
public final class TableTest {
    private static final Check CHECK = new Check();

    public static void main(String[] args) {
        CHECK.run(
            TableTest::setSetsOneCell,
            TableTest::setInNoColumn,
            TableTest::setInNoRow,
            TableTest::setToNoNumber,
            TableTest::setLeavesTheProof,
            TableTest::cellIsWhatWasSet,
            TableTest::cellOutside,
            TableTest::atKnownPoints,
            TableTest::atFollowsTheTable,
            TableTest::atOfNoColumn,
            TableTest::atNoPoint,
            TableTest::wrongIsTheLeastRow,
            TableTest::wrongRowOfTwoKinds,
            TableTest::wrongRowsOfBounds,
            TableTest::noRowIsWrong);
        CHECK.end();
    }

    private static void setSetsOneCell() {
        CHECK.sentence("Promise 5", "Sets a cell: true");
        for (int c = 0; c < 2; c++) {
            for (int r = 0; r < 8; r++) {
                TraceProver x = numbered();
                CHECK.due("set(" + c + ", " + r + ", 12288)", x.set(c, r, 12288), true);
                dueNumberedBut("the greatest number", x, c, r, 12288);
                CHECK.due("set(" + c + ", " + r + ", 0)", x.set(c, r, 0), true);
                dueNumberedBut("the least number", x, c, r, 0);
                CHECK.due("the same again", x.set(c, r, 0), true);
                dueNumberedBut("the same again", x, c, r, 0);
            }
        }
    }

    private static void setInNoColumn() {
        CHECK.sentence("Promise 5", "false when c is not 0 or 1");
        TraceProver x = numbered();
        for (int bad : Outside.COLUMNS) {
            for (int r = -8; r < 16; r++) {
                CHECK.due("set(" + bad + ", " + r + ", 5)", x.set(bad, r, 5), false);
            }
        }
        dueNumbered("behind refused calls", x);
    }

    private static void setInNoRow() {
        CHECK.sentence("Promise 5", "r not 0 .. 7");
        TraceProver x = numbered();
        for (int bad : Outside.ROWS) {
            CHECK.due("set(0, " + bad + ", 5)", x.set(0, bad, 5), false);
            CHECK.due("set(1, " + bad + ", 5)", x.set(1, bad, 5), false);
        }
        dueNumbered("behind refused calls", x);
    }

    private static void setToNoNumber() {
        CHECK.sentence("Promise 5", "v not 0 .. 12288");
        TraceProver x = numbered();
        for (int bad : Outside.FIELD) {
            CHECK.due("set(0, 0, " + bad + ")", x.set(0, 0, bad), false);
            CHECK.due("set(1, 7, " + bad + ")", x.set(1, 7, bad), false);
        }
        dueNumbered("behind refused calls", x);
    }

    private static void setLeavesTheProof() {
        CHECK.sentence("Promise 5", "Sets a cell (and nothing else)");
        TraceProver x = Samples.provedFibonacci();
        CHECK.due("verify()", x.verify(), 0);
        x.set(0, 0, 12288);
        CHECK.dueProof("behind set()", x, Samples.fibonacciProof());
        CHECK.duePositions("behind set()", x, 8, 5, 4);
        CHECK.due("verify() behind set()", x.verify(), 0);
    }

    private static void cellIsWhatWasSet() {
        CHECK.sentence("Promise 6", "A cell");
        TraceProver fresh = new TraceProver();
        for (int c = 0; c < 2; c++) {
            for (int r = 0; r < 8; r++) {
                CHECK.due("at first: cell(" + c + ", " + r + ")", fresh.cell(c, r), 0);
            }
        }
        dueNumbered("all set", numbered());
    }

    private static void cellOutside() {
        CHECK.sentence("Promise 6", "BAD");
        TraceProver x = numbered();
        for (int bad : Outside.COLUMNS) {
            for (int r = -8; r < 16; r++) {
                CHECK.due("cell(" + bad + ", " + r + ")", x.cell(bad, r), TraceProver.BAD);
            }
        }
        for (int bad : Outside.ROWS) {
            CHECK.due("cell(0, " + bad + ")", x.cell(0, bad), TraceProver.BAD);
            CHECK.due("cell(1, " + bad + ")", x.cell(1, bad), TraceProver.BAD);
        }
    }

    private static void atKnownPoints() {
        CHECK.sentence("Promise 7", "The polynomial of a column at X(i)");
        TraceProver x = Samples.fibonacci();
        CHECK.due("at(0, 0) of Fibonacci's numbers", x.at(0, 0), 8623);
        CHECK.due("at(1, 31) of Fibonacci's numbers", x.at(1, 31), 2889);
        for (int c = 0; c < 2; c++) {
            for (int r = 0; r < 8; r++) {
                TraceProver y = new TraceProver();
                Model model = new Model();
                y.set(c, r, 12288);
                model.set(c, r, 12288);
                for (int i = 0; i < 32; i++) {
                    CHECK.due("cell (" + c + ", " + r + ") alone, at " + i, y.at(c, i), model.at(c, i));
                    CHECK.due("the other column, at " + i, y.at(1 - c, i), 0);
                }
            }
        }
    }

    private static void atFollowsTheTable() {
        CHECK.sentence("Promise 7", "The polynomial of a column at X(i) (of the table as it is)");
        TraceProver x = Samples.provedFibonacci();
        for (int r = 0; r < 8; r++) {
            x.set(0, r, 12288);
        }
        for (int i = 0; i < 32; i++) {
            CHECK.due("at(0, " + i + ") of a column of 12288", x.at(0, i), 12288);
            CHECK.due("at(1, " + i + ") beside it", x.at(1, i), Samples.fibonacci().at(1, i));
        }
    }

    private static void atOfNoColumn() {
        CHECK.sentence("Promise 7", "BAD when c is not 0 or 1");
        TraceProver x = Samples.fibonacci();
        for (int bad : Outside.COLUMNS) {
            for (int i = -1; i <= 32; i++) {
                CHECK.due("at(" + bad + ", " + i + ")", x.at(bad, i), TraceProver.BAD);
            }
        }
    }

    private static void atNoPoint() {
        CHECK.sentence("Promise 7", "or i not 0 .. 31");
        TraceProver x = Samples.fibonacci();
        for (int bad : Outside.POINTS) {
            CHECK.due("at(0, " + bad + ")", x.at(0, bad), TraceProver.BAD);
            CHECK.due("at(1, " + bad + ")", x.at(1, bad), TraceProver.BAD);
        }
        CHECK.due("at(0, 0) is a number", x.at(0, 0) >= 0, true);
        CHECK.due("at(1, 31) is a number", x.at(1, 31) >= 0, true);
    }

    private static void wrongIsTheLeastRow() {
        CHECK.sentence("Promise 8", "The least row that is wrong");
        for (int r = 0; r < 8; r++) {
            TraceProver x = Samples.fibonacci();
            x.set(1, r, 12000);
            CHECK.due("cell (1, " + r + ") spoilt: wrong()", x.wrong(), r == 0 ? 0 : r - 1);
            x.set(1, 7, 12000);
            CHECK.due("and cell (1, 7): wrong()", x.wrong(), r == 0 ? 0 : r - 1);
        }
        TraceProver all = new TraceProver();
        all.term(1, 1, 0, 0);
        CHECK.due("every row wrong: wrong()", all.wrong(), 0);
    }

    private static void wrongRowOfTwoKinds() {
        CHECK.sentence("Promise 8", "The least row that is wrong (by either constraint or a bound)");
        TraceProver x = new TraceProver();
        x.bound(0, 7, 1);
        CHECK.due("a bound in row 7: wrong()", x.wrong(), 7);
        x.term(1, 1, 2, 0);
        x.set(1, 6, 1);
        CHECK.due("constraint 1 in row 6: wrong()", x.wrong(), 6);
        x.term(0, 1, 1, 0);
        x.set(0, 3, 1);
        CHECK.due("constraint 0 in row 3: wrong()", x.wrong(), 3);
        x.bound(1, 0, 12288);
        CHECK.due("a bound in row 0: wrong()", x.wrong(), 0);
        x.set(1, 0, 12288);
        CHECK.due("that bound met against constraint 1: wrong()", x.wrong(), 0);
    }

    private static void wrongRowsOfBounds() {
        CHECK.sentence("Promise 8", "The least row that is wrong (by a bound of each row)");
        for (int r = 0; r < 8; r++) {
            TraceProver x = new TraceProver();
            x.bound(1, 7, 0);
            x.bound(0, r, 3);
            CHECK.due("bound of row " + r + " not met", x.wrong(), r);
            x.set(1, r, 3);
            CHECK.due("bound of row " + r + " met in the other column", x.wrong(), r);
            x.set(1, r, 0);
            x.set(0, r, 3);
            CHECK.due("bound of row " + r + " met", x.wrong(), TraceProver.NONE);
        }
        TraceProver x = new TraceProver();
        x.bound(0, 6, 1);
        x.bound(0, 3, 1);
        CHECK.due("two bounds, the later row first", x.wrong(), 3);
    }

    private static void noRowIsWrong() {
        CHECK.sentence("Promise 8", "NONE when there is none");
        CHECK.due("no rules: wrong()", new TraceProver().wrong(), TraceProver.NONE);
        CHECK.due("Fibonacci's numbers: wrong()", Samples.fibonacci().wrong(), TraceProver.NONE);
        TraceProver x = new TraceProver();
        x.bound(0, 7, 12288);
        x.set(0, 7, 12288);
        CHECK.due("a bound met: wrong()", x.wrong(), TraceProver.NONE);
        CHECK.due("rules full and kept: wrong()", Samples.fullRules().wrong(), TraceProver.NONE);
    }

    /** Every cell has a number of its own. */
    private static TraceProver numbered() {
        TraceProver x = new TraceProver();
        for (int c = 0; c < 2; c++) {
            for (int r = 0; r < 8; r++) {
                x.set(c, r, number(c, r));
            }
        }
        return x;
    }

    private static int number(int c, int r) {
        return 12288 - 10 * c - r;
    }

    private static void dueNumbered(String when, TraceProver x) {
        dueNumberedBut(when, x, -1, -1, 0);
    }

    private static void dueNumberedBut(String when, TraceProver x, int column, int row, int v) {
        for (int c = 0; c < 2; c++) {
            for (int r = 0; r < 8; r++) {
                int due = c == column && r == row ? v : number(c, r);
                CHECK.due(when + ": cell(" + c + ", " + r + ")", x.cell(c, r), due);
            }
        }
    }
}
