/**
 * The boundary cases of the promises 11 to 14: what formulas are, and counts. A method holds one sentence, which its
 * comment quotes. (The cases of the formulas' own terms stand in TermsEdgesTest.)
 */
public final class FormulaEdgesTest {
    private static final Check CHECK = new Check("FormulaEdgesTest");
    private static final long LARGEST = 1_000_000_000_000L;
    private static final int[] NOT_LOADED = {2, 3, 5};

    public static void main(String[] args) {
        CHECK.runAll(FormulaEdgesTest.class);
        CHECK.end();
    }

    private static RootRows with(String text) {
        RootRows rows = new RootRows();
        rows.setCell(0, LARGEST);
        rows.setCell(7, 1);
        Check.make(rows, 0, text);
        return rows;
    }

    /** Each way by which a formula that was there is there no more. */
    private static RootRows[] goneAgain() {
        RootRows undone = with("1");
        undone.undo();
        RootRows restored = new RootRows();
        restored.save(0);
        Check.make(restored, 0, "1");
        restored.restore(0);
        return new RootRows[] {undone, restored};
    }

    // ---- promise 11: value

    /** Promise 11, "Returns the value": 0 and LARGEST, of the first and the last formula. */
    private static void valueReturns0AndLargest() {
        RootRows rows = new RootRows();
        Check.make(rows, 0, "0");
        Check.make(rows, 5, "s(s(1000))");
        CHECK.due("value(0)", rows.value(0), 0);
        CHECK.due("value(5)", rows.value(5), LARGEST);
    }

    /** Promise 11, "NO_SUCH if there is no such formula". */
    private static void valueRefusesAFormulaThatThereIsNot() {
        for (int formula : Check.outside(0, 5)) {
            CHECK.refused("value(" + formula + ")", rows -> rows.value(formula), -1);
        }
        for (int formula : NOT_LOADED) {
            CHECK.refused("value(" + formula + ")", rows -> rows.value(formula), -1);
        }
        for (RootRows rows : goneAgain()) {
            CHECK.due("value(0) that is there no more", rows.value(0), -1);
        }
    }

    /** Promise 11, "NOT_POSSIBLE if it has none": above LARGEST, and below 0. */
    private static void valueRefusesAFormulaWithoutAValue() {
        CHECK.refused("value(0) of A+H", () -> with("A+H"), rows -> rows.value(0), -5);
        CHECK.refused("value(0) of H-2", () -> with("H-2"), rows -> rows.value(0), -5);
        CHECK.refused("value(0) of 0-1+1", () -> with("0-1+1"), rows -> rows.value(0), -5);
        CHECK.refused("value(0) of A*H+1-1", () -> with("A*H+1-1"), rows -> rows.value(0), -5);
    }

    // ---- promise 12: ofFormula

    /** Promise 12, "0 its steps": 1 at least, 59 at most; also if it has no value. */
    private static void ofFormulaTellsItsSteps() {
        CHECK.due("ofFormula(0, 0) of 7", with("7").ofFormula(0, 0), 1);
        CHECK.due("ofFormula(0, 0) of 60 characters", with("(".repeat(28) + "1234" + ")".repeat(28)).ofFormula(0, 0), 1);
        CHECK.due("ofFormula(0, 0) of 60 characters", with("10" + "+H".repeat(29)).ofFormula(0, 0), 59);
        CHECK.due("ofFormula(0, 0) of 0-1+1", with("0-1+1").ofFormula(0, 0), 5);
    }

    /** Promise 12, "1 the set of cells that it names (bit 0 for A)": none, each alone, all; also if it has no value. */
    private static void ofFormulaTellsTheCellsThatItNames() {
        CHECK.due("ofFormula(0, 1) of q(9)", with("q(9)").ofFormula(0, 1), 0);
        for (int cell = 0; cell < 8; cell++) {
            char letter = (char) ('A' + cell);
            CHECK.due("ofFormula(0, 1) of " + letter, with("" + letter).ofFormula(0, 1), 1 << cell);
            CHECK.due("ofFormula(0, 1), named twice", with("k(" + letter + ")*" + letter).ofFormula(0, 1), 1 << cell);
        }
        CHECK.due("ofFormula(0, 1) of all", with("A+B+C+D+E+F+G+H").ofFormula(0, 1), 255);
        CHECK.due("ofFormula(0, 1) behind the step that ends it", with("0-1+H+A").ofFormula(0, 1), 129);
    }

    /** Promise 12, "2 the reason why it has no value (0 if it has one)". */
    private static void ofFormulaTellsTheReason() {
        CHECK.due("ofFormula(0, 2) of A", with("A").ofFormula(0, 2), 0);
        CHECK.due("ofFormula(0, 2) of A+H", with("A+H").ofFormula(0, 2), 1);
        CHECK.due("ofFormula(0, 2) of H-1", with("H-1").ofFormula(0, 2), 0);
        CHECK.due("ofFormula(0, 2) of H-2", with("H-2").ofFormula(0, 2), 2);
        RootRows rows = with("A+B");
        CHECK.due("ofFormula(0, 2) of A+B with B = 0", rows.ofFormula(0, 2), 0);
        rows.setCell(1, 1);
        CHECK.due("ofFormula(0, 2) of A+B with B = 1", rows.ofFormula(0, 2), 1);
        rows.setCell(0, 0);
        CHECK.due("ofFormula(0, 2) of A+B with A = 0", rows.ofFormula(0, 2), 0);
    }

    /** Promise 12, "3 the step by which it has none (NONE if it has one)": the earliest, a middle and the last one. */
    private static void ofFormulaTellsTheStepThatEndsIt() {
        CHECK.due("ofFormula(0, 3) of A", with("A").ofFormula(0, 3), -6);
        CHECK.due("ofFormula(0, 3) of A-A", with("A-A").ofFormula(0, 3), -6);
        CHECK.due("ofFormula(0, 3) of s(A)", with("s(A)").ofFormula(0, 3), 1);
        CHECK.due("ofFormula(0, 3) of 0-1+1", with("0-1+1").ofFormula(0, 3), 2);
        CHECK.due("ofFormula(0, 3) at the last of 59 steps",
            with("28" + "-1".repeat(29)).ofFormula(0, 3), 58);
        CHECK.due("ofFormula(0, 3) of 59 steps down to 0", with("29" + "-1".repeat(29)).ofFormula(0, 3), -6);
    }

    /** Promise 12, "4 how many roots it has": none, and 19, the most that 60 characters can hold. */
    private static void ofFormulaTellsHowManyRootsItHas() {
        CHECK.due("ofFormula(0, 4) of A", with("A").ofFormula(0, 4), 0);
        CHECK.due("ofFormula(0, 4) of s(s(2))", with("s(s(2))").ofFormula(0, 4), 0);
        CHECK.due("ofFormula(0, 4) of q(A)", with("q(A)").ofFormula(0, 4), 1);
        CHECK.due("ofFormula(0, 4) of k(A)", with("k(A)").ofFormula(0, 4), 1);
        CHECK.due("ofFormula(0, 4) of 19 of them", with("q(".repeat(19) + "A" + ")".repeat(19)).ofFormula(0, 4), 19);
        CHECK.due("ofFormula(0, 4) of both sorts", with("k(q(A))+q(k(A))*s(1)").ofFormula(0, 4), 4);
        CHECK.due("ofFormula(0, 4) behind the step that ends it", with("0-1+q(k(A))").ofFormula(0, 4), 2);
    }

    /** Promise 12, "NO_SUCH if there is no such formula". */
    private static void ofFormulaRefusesAFormulaThatThereIsNot() {
        for (int what = 0; what <= 4; what++) {
            int asked = what;
            for (int formula : Check.outside(0, 5)) {
                CHECK.refused("ofFormula(" + formula + ", " + what + ")", rows -> rows.ofFormula(formula, asked), -1);
            }
            for (int formula : NOT_LOADED) {
                CHECK.refused("ofFormula(" + formula + ", " + what + ")", rows -> rows.ofFormula(formula, asked), -1);
            }
            for (RootRows rows : goneAgain()) {
                CHECK.due("ofFormula(0, " + what + ") that is there no more", rows.ofFormula(0, what), -1);
            }
        }
    }

    /** Promise 12, "BAD_VALUE if what is out of range." */
    private static void ofFormulaRefusesAWhatOutOfRange() {
        for (int what : Check.outside(0, 4)) {
            CHECK.refused("ofFormula(1, " + what + ")", rows -> rows.ofFormula(1, what), -2);
            CHECK.refused("ofFormula(0, " + what + ") without a value", rows -> rows.ofFormula(0, what), -2);
        }
    }

    /** Promise 12, the order of its errors: NO_SUCH, then BAD_VALUE. */
    private static void ofFormulaNamesTheFormulaFirst() {
        for (int what : Check.outside(0, 4)) {
            for (int formula : Check.outside(0, 5)) {
                CHECK.refused("ofFormula(" + formula + ", " + what + ")", rows -> rows.ofFormula(formula, what), -1);
            }
            CHECK.refused("ofFormula(2, " + what + ")", rows -> rows.ofFormula(2, what), -1);
        }
    }

    // ---- promise 13: stepValue

    /** Promise 13, "Returns the value of a step of a formula": the first and the last one, at 0 and at LARGEST. */
    private static void stepValueReturnsTheFirstAndTheLastStep() {
        CHECK.due("stepValue(0, 0) of 0", with("0").stepValue(0, 0), 0);
        CHECK.due("stepValue(0, 0) of A", with("A").stepValue(0, 0), LARGEST);
        RootRows rows = with("10" + "+H".repeat(29));
        CHECK.due("stepValue(0, 0) of 59 steps", rows.stepValue(0, 0), 10);
        CHECK.due("stepValue(0, 58) of 59 steps", rows.stepValue(0, 58), 39);
        CHECK.due("stepValue(0, 2) of A-A", with("A-A").stepValue(0, 2), 0);
        CHECK.due("stepValue(0, 2) of A*H", with("A*H").stepValue(0, 2), LARGEST);
    }

    /** Promise 13, "NO_SUCH if there is no such formula". */
    private static void stepValueRefusesAFormulaThatThereIsNot() {
        for (int formula : Check.outside(0, 5)) {
            CHECK.refused("stepValue(" + formula + ", 0)", rows -> rows.stepValue(formula, 0), -1);
        }
        for (int formula : NOT_LOADED) {
            CHECK.refused("stepValue(" + formula + ", 0)", rows -> rows.stepValue(formula, 0), -1);
        }
        for (RootRows rows : goneAgain()) {
            CHECK.due("stepValue(0, 0) that is there no more", rows.stepValue(0, 0), -1);
        }
    }

    /** Promise 13, "NO_SUCH if there is no such ... step". */
    private static void stepValueRefusesAStepThatThereIsNot() {
        for (String text : new String[] {"7", "A-A", "10" + "+H".repeat(29)}) {
            int steps = with(text).ofFormula(0, 0);
            for (int step : Check.outside(0, steps - 1)) {
                CHECK.refused("stepValue(0, " + step + ") of " + text, () -> with(text), rows -> rows.stepValue(0, step), -1);
            }
        }
    }

    /** Promise 13, "NOT_POSSIBLE if this step has none (it comes behind the one that ends it, or is this one)." */
    private static void stepValueRefusesTheStepThatEndsItAndThoseBehind() {
        CHECK.due("stepValue(0, 1) of A+H+3, ahead of it", with("A+H+3").stepValue(0, 1), 1);
        CHECK.due("stepValue(0, 1) of H-2+3, ahead of it", with("H-2+3").stepValue(0, 1), 2);
        for (int step = 2; step <= 4; step++) {
            int asked = step;
            CHECK.refused("stepValue(0, " + step + ") of A+H+3", () -> with("A+H+3"), rows -> rows.stepValue(0, asked), -5);
            CHECK.refused("stepValue(0, " + step + ") of H-2+3", () -> with("H-2+3"), rows -> rows.stepValue(0, asked), -5);
        }
    }

    /** Promise 13, the order of its errors: NO_SUCH, then NOT_POSSIBLE. */
    private static void stepValueNamesTheStepFirst() {
        for (int step : Check.outside(0, 4)) {
            CHECK.refused("stepValue(0, " + step + ") of H-2+3", () -> with("H-2+3"), rows -> rows.stepValue(0, step), -1);
            CHECK.refused("stepValue(0, " + step + ") of A+H+3", () -> with("A+H+3"), rows -> rows.stepValue(0, step), -1);
        }
        CHECK.due("stepValue(0, 4) of H-2+3", with("H-2+3").stepValue(0, 4), -5);
    }

    // ---- promise 14: count

    /** Promise 14, "0 the set of formulas that are there": none, each alone, all. */
    private static void countOfTheFormulasThatAreThere() {
        CHECK.due("count(0) of a new object", new RootRows().count(0), 0);
        RootRows all = new RootRows();
        for (int formula = 0; formula <= 5; formula++) {
            RootRows rows = new RootRows();
            Check.make(rows, formula, "1");
            CHECK.due("count(0) with formula " + formula, rows.count(0), 1 << formula);
            Check.make(all, formula, "1");
        }
        CHECK.due("count(0) with all", all.count(0), 63);
        all.undo();
        CHECK.due("count(0) behind undo()", all.count(0), 31);
    }

    /** Promise 14, "1 the length of the pad": 0 to 60. */
    private static void countOfTheLengthOfThePad() {
        RootRows rows = new RootRows();
        for (int length = 0; length <= 60; length++) {
            CHECK.due("count(1)", rows.count(1), length);
            rows.put('7');
        }
        CHECK.due("count(1) behind a put that was too many", rows.count(1), 60);
        rows.wipe();
        CHECK.due("count(1) behind wipe()", rows.count(1), 0);
    }

    /** Promise 14, "2 how many changes can be undone": 0 to 6, and 6 for more. */
    private static void countOfTheChangesThatCanBeUndone() {
        RootRows rows = new RootRows();
        for (int changes = 0; changes <= 8; changes++) {
            CHECK.due("count(2) behind " + changes, rows.count(2), Math.min(changes, 6));
            rows.setCell(0, 1);
        }
        for (int left = 5; left >= 0; left--) {
            rows.undo();
            CHECK.due("count(2) behind undo()", rows.count(2), left);
        }
        rows.undo();
        CHECK.due("count(2) of an empty history", rows.count(2), 0);
    }

    /** Promise 14, "3, 4 the settings": at their least and greatest values. */
    private static void countOfTheSettings() {
        RootRows rows = new RootRows();
        CHECK.due("count(3) at first", rows.count(3), 0);
        CHECK.due("count(4) at first", rows.count(4), 3);
        rows.set(0, 2);
        CHECK.due("count(3)", rows.count(3), 2);
        CHECK.due("count(4)", rows.count(4), 3);
        rows.set(1, 6);
        CHECK.due("count(3)", rows.count(3), 2);
        CHECK.due("count(4)", rows.count(4), 6);
        rows.set(1, 0);
        rows.set(0, 1);
        CHECK.due("count(3)", rows.count(3), 1);
        CHECK.due("count(4)", rows.count(4), 0);
    }

    /** Promise 14, "5 how many cells are not 0": 0 to 8. */
    private static void countOfTheCellsThatAreNot0() {
        RootRows rows = new RootRows();
        for (int cell = 0; cell < 8; cell++) {
            CHECK.due("count(5)", rows.count(5), cell);
            rows.setCell(cell, cell % 2 == 0 ? 1 : LARGEST);
        }
        CHECK.due("count(5) of all", rows.count(5), 8);
        rows.setCell(0, 0);
        CHECK.due("count(5) without A", rows.count(5), 7);
        rows.setCell(7, 0);
        CHECK.due("count(5) without A and H", rows.count(5), 6);
    }

    /** Promise 14, "BAD_VALUE if what is out of range." */
    private static void countRefusesAWhatOutOfRange() {
        for (int what : Check.outside(0, 5)) {
            CHECK.refused("count(" + what + ")", rows -> rows.count(what), -2);
        }
    }
}
