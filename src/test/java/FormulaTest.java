/** Promises 9 to 13: cells that are set by formulas, and what formulas are. */
public final class FormulaTest {
    private static final Check CHECK = new Check("FormulaTest");
    private static final long LARGEST = 1_000_000_000_000L;
    private static final int[] NO_FORMULAS = {-1, 6, 4, Integer.MAX_VALUE, Integer.MIN_VALUE};
    private static final int[] NO_CELLS = {-1, 8, Integer.MAX_VALUE, Integer.MIN_VALUE};

    public static void main(String[] args) {
        assign();
        assignRefuses();
        settle();
        settleWithoutValue();
        settleRefuses();
        values();
        valuesAtTheEdges();
        valuesByRound();
        ofFormula();
        reasons();
        ofFormulaRefuses();
        stepValue();
        stepValueRefuses();
        CHECK.end();
    }

    private static void assign() {
        RootRows rows = new RootRows();
        rows.setCell(0, 20);
        Check.make(rows, 0, "A*A+B");
        CHECK.due("P9 assign(1, 0)", rows.assign(1, 0), 400);
        CHECK.due("P9 cell(1)", rows.cell(1), 400);
        CHECK.due("P9 assign(1, 0) with the cell of its own", rows.assign(1, 0), 800);
        CHECK.due("P9 assign(7, 0)", rows.assign(7, 0), 1200);
        CHECK.due("P9 cell(7)", rows.cell(7), 1200);
        CHECK.due("P9 assign is a change", rows.count(2), 5);
        CHECK.due("P26 undo()", rows.undo(), 4);
        CHECK.due("P9 cell(7) then", rows.cell(7), 0);
        Check.make(rows, 1, "0");
        CHECK.due("P9 assign(7, 1) of 0", rows.assign(7, 1), 0);
        CHECK.due("P9 it is a change though nothing is different", rows.count(2), 6);
    }

    private static void assignRefuses() {
        RootRows rows = new RootRows();
        Check.make(rows, 0, "1-2");
        Check.make(rows, 1, "3");
        rows.setCell(2, 9);
        for (int formula : NO_FORMULAS) {
            CHECK.due("P9 assign(2, " + formula + ")", rows.assign(2, formula), -1);
        }
        for (int cell : NO_CELLS) {
            CHECK.due("P9 assign(" + cell + ", 1)", rows.assign(cell, 1), -1);
            CHECK.due("P9 no such cell is named ahead of no value", rows.assign(cell, 0), -1);
        }
        CHECK.due("P9 assign(2, 0)", rows.assign(2, 0), -5);
        CHECK.due("P9 cell(2) after errors", rows.cell(2), 9);
        CHECK.due("P9 count(2) after errors", rows.count(2), 3);
    }

    private static void settle() {
        RootRows rows = new RootRows();
        Check.make(rows, 0, "A+1");
        CHECK.due("P10 settle(0, 0, 100)", rows.settle(0, 0, 100), 100);
        CHECK.due("P10 cell(0)", rows.cell(0), 100);
        CHECK.due("P10 it is one change", rows.count(2), 2);
        CHECK.due("P10 settle(0, 0, 1)", rows.settle(0, 0, 1), 1);
        CHECK.due("P10 cell(0)", rows.cell(0), 101);
        CHECK.due("P26 undo()", rows.undo(), 2);
        CHECK.due("P26 undo()", rows.undo(), 1);
        CHECK.due("P10 cell(0) ahead of them", rows.cell(0), 0);
        rows.setCell(1, 65536);
        Check.make(rows, 1, "q(B)");
        CHECK.due("P10 65536 256 16 4 2 1 1", rows.settle(1, 1, 50), 6);
        CHECK.due("P10 cell(1)", rows.cell(1), 1);
        CHECK.due("P10 nothing becomes different", rows.settle(1, 1, 50), 1);
        Check.make(rows, 2, "B+5");
        CHECK.due("P10 a cell that the formula does not name", rows.settle(3, 2, 9), 2);
        CHECK.due("P10 cell(3)", rows.cell(3), 6);
        rows.setCell(1, 65536);
        CHECK.due("P10 as often as it is asked", rows.settle(1, 1, 5), 5);
        CHECK.due("P10 cell(1)", rows.cell(1), 1);
        CHECK.due("P10 cell(0) is not touched", rows.cell(0), 0);
    }

    private static void settleWithoutValue() {
        RootRows rows = new RootRows();
        rows.setCell(2, 10);
        Check.make(rows, 0, "C-3");
        CHECK.due("P10 10 7 4 1 and no more", rows.settle(2, 0, 100), 3);
        CHECK.due("P10 cell(2)", rows.cell(2), 1);
        CHECK.due("P10 it was a change", rows.count(2), 3);
        CHECK.due("P10 no value the first time", rows.settle(2, 0, 100), 0);
        CHECK.due("P10 it was a change, too", rows.count(2), 4);
        CHECK.due("P10 cell(2) still", rows.cell(2), 1);
        Check.make(rows, 1, "s(C+1)");
        rows.setCell(2, 1);
        CHECK.due("P10 4 25 676 458329 210066388900 and above LARGEST", rows.settle(2, 1, 100), 5);
        CHECK.due("P10 cell(2)", rows.cell(2), 210_066_388_900L);
    }

    private static void settleRefuses() {
        RootRows rows = new RootRows();
        Check.make(rows, 0, "A+1");
        for (int formula : NO_FORMULAS) {
            CHECK.due("P10 settle(0, " + formula + ", 1)", rows.settle(0, formula, 1), -1);
            CHECK.due("P10 no such formula is named ahead of times", rows.settle(0, formula, 0), -1);
        }
        for (int cell : NO_CELLS) {
            CHECK.due("P10 settle(" + cell + ", 0, 1)", rows.settle(cell, 0, 1), -1);
            CHECK.due("P10 no such cell is named ahead of times", rows.settle(cell, 0, 101), -1);
        }
        for (int times : new int[] {0, -1, 101, 1000, Integer.MAX_VALUE, Integer.MIN_VALUE}) {
            CHECK.due("P10 settle(0, 0, " + times + ")", rows.settle(0, 0, times), -2);
        }
        CHECK.due("P10 cell(0) after errors", rows.cell(0), 0);
        CHECK.due("P10 count(2) after errors", rows.count(2), 1);
    }

    private static void valueIs(RootRows rows, String text, long due) {
        Check.make(rows, 0, text);
        CHECK.due("P11 value of " + text, rows.value(0), due);
    }

    private static void values() {
        RootRows rows = new RootRows();
        for (int i = 0; i < 8; i++) {
            rows.setCell(i, i + 2);
        }
        valueIs(rows, "0", 0);
        valueIs(rows, "9999", 9999);
        valueIs(rows, "10-3-2", 5);
        valueIs(rows, "10-(3-2)", 9);
        valueIs(rows, "2+3*4", 14);
        valueIs(rows, "(2+3)*4", 20);
        valueIs(rows, "20-2*3-4", 10);
        valueIs(rows, "2*3+4*5", 26);
        valueIs(rows, "2*3*4-24", 0);
        valueIs(rows, "1-2+3", -5);
        valueIs(rows, "3+1-2", 2);
        valueIs(rows, "A+B*C-D", 2 + 12 - 5);
        valueIs(rows, "H*G*F*E", 9 * 8 * 7 * 6);
        valueIs(rows, "q(99)", 9);
        valueIs(rows, "k(999)", 9);
        valueIs(rows, "s(12)", 144);
        valueIs(rows, "q(s(7)+s(3))*2", 14);
        valueIs(rows, "s(s(s(2)))", 256);
        valueIs(rows, "k(q(64)*8+1)", 4);
        valueIs(rows, "((((H))))", 9);
        rows.setCell(7, 50);
        CHECK.due("P11 a cell names its value as it is then", rows.value(0), 50);
        CHECK.due("P11 value is no change", rows.count(2), 6);
        for (int formula : new int[] {-1, 1, 5, 6, Integer.MAX_VALUE, Integer.MIN_VALUE}) {
            CHECK.due("P11 value(" + formula + ")", rows.value(formula), -1);
        }
    }

    private static void valuesAtTheEdges() {
        RootRows rows = new RootRows();
        rows.setCell(0, LARGEST);
        rows.setCell(1, 1_000_000);
        rows.setCell(2, 1_000_001);
        valueIs(rows, "A", LARGEST);
        valueIs(rows, "A+0", LARGEST);
        valueIs(rows, "A+1", -5);
        valueIs(rows, "A-A", 0);
        valueIs(rows, "A-A-1", -5);
        valueIs(rows, "A*1", LARGEST);
        valueIs(rows, "1*A", LARGEST);
        valueIs(rows, "A*0", 0);
        valueIs(rows, "0*A", 0);
        valueIs(rows, "A*2", -5);
        valueIs(rows, "A*A", -5);
        valueIs(rows, "s(A)", -5);
        valueIs(rows, "s(B)", LARGEST);
        valueIs(rows, "s(C)", -5);
        valueIs(rows, "B*B", LARGEST);
        valueIs(rows, "B*C", -5);
        valueIs(rows, "C*B", -5);
        valueIs(rows, "q(A)", 1_000_000);
        valueIs(rows, "k(A)", 10_000);
        valueIs(rows, "A+A-A", -5);
        valueIs(rows, "A-A+A", LARGEST);
        valueIs(rows, "0*s(A)", -5);
        valueIs(rows, "9999*9999*9999", 9999L * 9999 * 9999);
        valueIs(rows, "9999*9999*9999+9999*9999*3", 9999L * 9999 * 9999 + 9999L * 9999 * 3);
        rows.setCell(3, 4_294_967_296L);
        // 2 to the power of 32: its square is 0 in a long.
        valueIs(rows, "D*D", -5);
        valueIs(rows, "s(D)", -5);
    }

    private static void valuesByRound() {
        RootRows rows = new RootRows();
        long[][] due = {{2, 2, 1}, {3, 2, 2}, {3, 3, 2}};
        for (int round = 0; round <= 2; round++) {
            rows.set(0, round);
            valueIs(rows, "q(7)", due[round][0]);
            valueIs(rows, "k(" + (round == 1 ? "15" : "10") + ")", due[round][1]);
            valueIs(rows, "q(3)", due[round][2]);
            valueIs(rows, "q(9)*k(27)", 9);
        }
        Check.make(rows, 1, "q(7)");
        rows.set(0, 0);
        CHECK.due("P11 by ROUND as it is when it is reckoned", rows.value(1), 2);
    }

    private static void ofFormula() {
        RootRows rows = new RootRows();
        Check.make(rows, 0, "q(A+k(H))-s(C)*q(7)+0");
        int[] due = {13, 1 | 4 | 128, 0, -6, 3};
        rows.setCell(0, 10_000);
        for (int what = 0; what < due.length; what++) {
            CHECK.due("P12 ofFormula(0, " + what + ")", rows.ofFormula(0, what), due[what]);
        }
        Check.make(rows, 1, "A+B+C+D+E+F+G+H+A");
        CHECK.due("P12 all cells", rows.ofFormula(1, 1), 255);
        CHECK.due("P12 no roots", rows.ofFormula(1, 4), 0);
        Check.make(rows, 2, "s(s(5))");
        CHECK.due("P12 no cells", rows.ofFormula(2, 1), 0);
        CHECK.due("P12 s is no root", rows.ofFormula(2, 4), 0);
        CHECK.due("P12 steps", rows.ofFormula(2, 0), 3);
        Check.make(rows, 3, "0");
        CHECK.due("P12 one step", rows.ofFormula(3, 0), 1);
        CHECK.due("P12 brackets are no steps", Check.make(rows, 3, "((1)+(2))"), 3);
        CHECK.due("P12 ofFormula is no change", rows.count(2), 6);
    }

    private static void reasonOf(RootRows rows, String text, int reason, int step) {
        Check.make(rows, 0, text);
        CHECK.due("P12 reason of " + text, rows.ofFormula(0, 2), reason);
        CHECK.due("P12 step that ends " + text, rows.ofFormula(0, 3), step);
        CHECK.due("P11 value of " + text, rows.value(0) < 0 ? 1 : 0, reason == 0 ? 0 : 1);
    }

    private static void reasons() {
        RootRows rows = new RootRows();
        rows.setCell(0, LARGEST);
        reasonOf(rows, "1-2", 2, 2);
        reasonOf(rows, "2-2", 0, -6);
        reasonOf(rows, "A+1", 1, 2);
        reasonOf(rows, "s(A)", 1, 1);
        reasonOf(rows, "A*A", 1, 2);
        reasonOf(rows, "1-2+A*A", 2, 2);
        reasonOf(rows, "A*A+(1-2)", 1, 2);
        reasonOf(rows, "5+3*(1-2)", 2, 4);
        reasonOf(rows, "1+2+3-7", 2, 6);
        reasonOf(rows, "q(1-2)", 2, 2);
        reasonOf(rows, "s(q(A))", 0, -6);
        reasonOf(rows, "s(q(A)+1)", 1, 4);
        reasonOf(rows, "0*(A+1)", 1, 3);
        reasonOf(rows, "0-A", 2, 2);
        rows.setCell(0, 0);
        reasonOf(rows, "0-A", 0, -6);
    }

    private static void ofFormulaRefuses() {
        RootRows rows = new RootRows();
        Check.make(rows, 0, "1");
        for (int formula : new int[] {-1, 1, 5, 6, Integer.MAX_VALUE, Integer.MIN_VALUE}) {
            CHECK.due("P12 ofFormula(" + formula + ", 0)", rows.ofFormula(formula, 0), -1);
            CHECK.due("P12 no such formula is named first", rows.ofFormula(formula, 5), -1);
        }
        for (int what : new int[] {-1, 5, 6, Integer.MAX_VALUE, Integer.MIN_VALUE}) {
            CHECK.due("P12 ofFormula(0, " + what + ")", rows.ofFormula(0, what), -2);
        }
    }

    private static void stepValue() {
        RootRows rows = new RootRows();
        rows.setCell(1, 16);
        Check.make(rows, 0, "2*(B-q(9))+s(5)");
        long[] due = {2, 16, 9, 3, 13, 26, 5, 25, 51};
        CHECK.due("P12 its steps", rows.ofFormula(0, 0), due.length);
        for (int step = 0; step < due.length; step++) {
            CHECK.due("P13 stepValue(0, " + step + ")", rows.stepValue(0, step), due[step]);
        }
        rows.setCell(1, 2);
        for (int step = 0; step < due.length; step++) {
            long now = step < 4 ? new long[] {2, 2, 9, 3}[step] : -5;
            CHECK.due("P13 stepValue(0, " + step + ") with B = 2", rows.stepValue(0, step), now);
        }
        Check.make(rows, 1, "B");
        CHECK.due("P13 a formula of one step", rows.stepValue(1, 0), 2);
        CHECK.due("P13 the first formula still", rows.stepValue(0, 2), 9);
        CHECK.due("P13 stepValue is no change", rows.count(2), 4);
    }

    private static void stepValueRefuses() {
        RootRows rows = new RootRows();
        Check.make(rows, 0, "1-2-3");
        for (int formula : new int[] {-1, 1, 5, 6, Integer.MAX_VALUE, Integer.MIN_VALUE}) {
            CHECK.due("P13 stepValue(" + formula + ", 0)", rows.stepValue(formula, 0), -1);
        }
        for (int step : new int[] {-1, 5, 6, 60, Integer.MAX_VALUE, Integer.MIN_VALUE}) {
            CHECK.due("P13 stepValue(0, " + step + ")", rows.stepValue(0, step), -1);
        }
        long[] due = {1, 2, -5, -5, -5};
        for (int step = 0; step < due.length; step++) {
            CHECK.due("P13 stepValue(0, " + step + ")", rows.stepValue(0, step), due[step]);
        }
    }
}
