/**
 * The boundary cases of the promises 26 to 28: undo, save and restore. A method holds one sentence, which its comment
 * quotes.
 */
public final class HistoryEdgesTest {
    private static final Check CHECK = new Check("HistoryEdgesTest");
    private static final long LARGEST = 1_000_000_000_000L;

    /** What each of the six methods does that are a change, as a call that returns no error on rich(). */
    private static final Check.Call[] CHANGES = {rows -> rows.set(1, 6), rows -> rows.setCell(7, LARGEST),
        rows -> rows.load(5), rows -> rows.assign(6, 1), rows -> rows.settle(5, 1, 100), rows -> rows.restore(0)};
    private static final String[] NAMES = {"set", "setCell", "load", "assign", "settle", "restore"};

    public static void main(String[] args) {
        CHECK.runAll(HistoryEdgesTest.class);
        CHECK.end();
    }

    /** An object with so many changes, 2 to 6; formula 1 is there, and slot 0 holds it as it was when it was new. */
    private static RootRows rich(int changes) {
        RootRows rows = new RootRows();
        rows.save(0);
        Check.make(rows, 1, "q(A)+9");
        rows.set(0, 2);
        for (int i = 2; i < changes; i++) {
            rows.setCell(1, i);
        }
        Check.type(rows, "A+1");
        return rows;
    }

    private static RootRows withCells(int changes) {
        RootRows rows = new RootRows();
        for (int i = 1; i <= changes; i++) {
            rows.setCell(0, i);
        }
        return rows;
    }

    // ---- promise 26: undo

    /** Promise 26, "NOT_POSSIBLE if there is none": of a new object, and when all was undone. */
    private static void undoRefusesAnEmptyHistory() {
        CHECK.refused("undo() of a new object", RootRows::new, rows -> rows.undo(), -5);
        CHECK.refused("undo() when all was undone", HistoryEdgesTest::allUndone, rows -> rows.undo(), -5);
        CHECK.refused("undo() with a slot and a pad alone", () -> {
            RootRows rows = new RootRows();
            rows.save(0);
            rows.put('7');
            return rows;
        }, rows -> rows.undo(), -5);
    }

    private static RootRows allUndone() {
        RootRows rows = withCells(8);
        for (int i = 0; i < 6; i++) {
            rows.undo();
        }
        return rows;
    }

    /** Promise 26, "Returns how many changes can be undone then": 5 down to 0. */
    private static void undoReturnsHowManyAreLeft() {
        for (int changes = 1; changes <= 9; changes++) {
            RootRows rows = withCells(changes);
            int kept = Math.min(changes, 6);
            for (int left = kept - 1; left >= 0; left--) {
                CHECK.due("undo() of " + changes, rows.undo(), left);
                CHECK.due("count(2)", rows.count(2), left);
            }
            CHECK.due("undo() of nothing", rows.undo(), -5);
        }
    }

    /** Promise 26, "A history of at most 6 states is kept", "when one more is recorded, the oldest one is dropped." */
    private static void theOldestOf7StatesIsDropped() {
        RootRows six = withCells(6);
        RootRows seven = withCells(7);
        for (int i = 0; i < 6; i++) {
            six.undo();
            seven.undo();
        }
        CHECK.due("cell(0) behind 6 changes, all undone", six.cell(0), 0);
        CHECK.due("cell(0) behind 7 changes, 6 undone", seven.cell(0), 1);
        CHECK.due("undo() of the 7th", seven.undo(), -5);
        CHECK.due("cell(0) still", seven.cell(0), 1);
    }

    /** The same sentence: the places of the history come around again and again, at each place of its start. */
    private static void theHistoryWrapsAround() {
        for (int changes = 6; changes <= 20; changes++) {
            for (int undone = 1; undone <= 6; undone++) {
                RootRows rows = withCells(changes);
                for (int i = 1; i <= undone; i++) {
                    rows.undo();
                    CHECK.due("cell(0), " + i + " of " + changes + " undone", rows.cell(0), changes - i);
                }
                rows.setCell(7, 100);
                CHECK.due("count(2) behind one more", rows.count(2), 7 - undone);
                rows.undo();
                CHECK.due("cell(7) with it undone", rows.cell(7), 0);
                CHECK.due("cell(0) with it undone", rows.cell(0), changes - undone);
            }
        }
    }

    /** Promise 26, "the settings, the cells and the formulas are as they were before it": each of them. */
    private static void undoBringsBackSettingsCellsAndFormulas() {
        for (int i = 0; i < CHANGES.length; i++) {
            RootRows rows = rich(2);
            String before = Seen.state(rows);
            CHECK.isTrue(NAMES[i] + " is no error", CHANGES[i].on(rows) >= 0);
            CHECK.isTrue(NAMES[i] + " makes a difference", !Seen.state(rows).equals(before));
            CHECK.due("undo() of " + NAMES[i], rows.undo(), 2);
            CHECK.isTrue("undo() of " + NAMES[i] + " brings all back", Seen.state(rows).equals(before));
        }
    }

    /** The same sentence: the pad and the slots are none of these. */
    private static void undoLeavesThePadAndTheSlots() {
        RootRows rows = new RootRows();
        rows.setCell(0, 1);
        rows.save(0);
        rows.setCell(0, 2);
        Check.type(rows, "q(");
        rows.undo();
        rows.undo();
        CHECK.due("count(1)", rows.count(1), 2);
        CHECK.due("fault()", rows.fault(), 2);
        CHECK.due("restore(0)", rows.restore(0), 0);
        CHECK.due("cell(0)", rows.cell(0), 1);
        RootRows loaded = new RootRows();
        Check.make(loaded, 0, "5");
        CHECK.due("undo() of load", loaded.undo(), 0);
        CHECK.due("count(1): the text does not come back", loaded.count(1), 0);
    }

    /** Promise 26, "each method that is a change, and returns no error, records the state before it": one state each. */
    private static void eachChangeRecordsOneState() {
        for (int i = 0; i < CHANGES.length; i++) {
            for (int changes = 2; changes <= 6; changes++) {
                RootRows rows = rich(changes);
                CHECK.isTrue(NAMES[i] + " is no error", CHANGES[i].on(rows) >= 0);
                CHECK.due("count(2) behind " + NAMES[i] + " and " + changes, rows.count(2), Math.min(changes + 1, 6));
            }
        }
    }

    /** The same sentence: what is no change records nothing, neither with an empty nor with a full history. */
    private static void whatIsNoChangeRecordsNothing() {
        for (RootRows rows : new RootRows[] {rich(2), rich(6)}) {
            int changes = rows.count(2);
            String before = Seen.now(rows);
            rows.cell(0);
            rows.fault();
            rows.value(1);
            rows.ofFormula(1, 2);
            rows.stepValue(1, 0);
            rows.count(0);
            rows.root(9, 2);
            rows.remainder(9, 2);
            rows.bit(9, 2, 0, 0);
            rows.digits(9);
            rows.compare(1, 2, 3, 4);
            rows.period(7);
            rows.term(7, 1);
            rows.convergent(7, 1, 0);
            rows.twoSquares(5, 0);
            rows.powers(0, 9);
            rows.rootSum(9);
            rows.save(1);
            CHECK.isTrue("all is as it was", Seen.now(rows).equals(before));
            rows.put('7');
            rows.wipe();
            CHECK.due("count(2)", rows.count(2), changes);
        }
    }

    /** The same sentence: an error records nothing, and drops nothing of a full history. */
    private static void errorsRecordAndDropNothing() {
        Check.Call[] errors = {rows -> rows.set(2, 0), rows -> rows.set(0, 3), rows -> rows.setCell(8, 0),
            rows -> rows.setCell(0, -1), rows -> rows.load(6), rows -> rows.assign(8, 1), rows -> rows.assign(0, 5),
            rows -> rows.settle(8, 1, 1), rows -> rows.settle(0, 5, 1), rows -> rows.settle(0, 1, 0),
            rows -> rows.settle(0, 1, 101), rows -> rows.restore(1), rows -> rows.restore(2)};
        int[] due = {-2, -2, -1, -2, -1, -1, -1, -1, -1, -2, -2, -5, -2};
        for (int i = 0; i < errors.length; i++) {
            CHECK.refused("error " + i + " with a short history", () -> rich(2), errors[i], due[i]);
            CHECK.refused("error " + i + " with a full history", () -> rich(6), errors[i], due[i]);
        }
    }

    /** Promise 26, "(also if nothing is different then)": each of the changes, when all is as it was. */
    private static void aChangeThatMakesNoDifferenceIsRecordedToo() {
        Check.Call[] same = {rows -> rows.set(0, 0), rows -> rows.setCell(0, 0), rows -> Check.make(rows, 0, "A"),
            rows -> rows.assign(0, 0), rows -> rows.settle(0, 0, 100), rows -> rows.restore(0)};
        for (int i = 0; i < same.length; i++) {
            RootRows rows = new RootRows();
            Check.make(rows, 0, "A");
            rows.save(0);
            CHECK.isTrue(NAMES[i] + " is no error", same[i].on(rows) >= 0);
            CHECK.due("count(2) behind " + NAMES[i], rows.count(2), 2);
            CHECK.due("undo() of " + NAMES[i], rows.undo(), 1);
            CHECK.due("count(0): the formula is still there", rows.count(0), 1);
        }
    }

    /** Promise 26, undo: it is no change itself, and what was undone does not come back. */
    private static void undoIsNoChange() {
        RootRows rows = withCells(3);
        CHECK.due("undo()", rows.undo(), 2);
        CHECK.due("undo() goes on", rows.undo(), 1);
        CHECK.due("cell(0)", rows.cell(0), 1);
        rows.setCell(0, 9);
        CHECK.due("undo()", rows.undo(), 1);
        CHECK.due("cell(0)", rows.cell(0), 1);
        CHECK.due("undo()", rows.undo(), 0);
        CHECK.due("cell(0)", rows.cell(0), 0);
    }

    // ---- promise 27: save

    /** Promise 27, "`slot`: 0 or 1": each has its own. */
    private static void saveTakesTheSlots0And1() {
        RootRows rows = new RootRows();
        rows.setCell(0, 10);
        CHECK.due("save(0)", rows.save(0), 0);
        rows.setCell(0, 11);
        CHECK.due("save(1)", rows.save(1), 0);
        rows.setCell(0, 12);
        rows.restore(0);
        CHECK.due("cell(0) of slot 0", rows.cell(0), 10);
        rows.restore(1);
        CHECK.due("cell(0) of slot 1", rows.cell(0), 11);
    }

    /** Promise 27, "Returns the set of formulas that are there": none, and all. */
    private static void saveReturnsTheSetOfFormulas() {
        RootRows rows = new RootRows();
        CHECK.due("save(0) of a new object", rows.save(0), 0);
        for (int formula = 0; formula <= 5; formula++) {
            Check.make(rows, formula, "1");
            CHECK.due("save(1)", rows.save(1), (2 << formula) - 1);
        }
        rows.undo();
        CHECK.due("save(0) behind undo()", rows.save(0), 31);
    }

    /** Promise 27, "BAD_VALUE if there is no such slot." */
    private static void saveRefusesASlotThatThereIsNot() {
        for (int slot : Check.outside(0, 1)) {
            CHECK.refused("save(" + slot + ")", rows -> rows.save(slot), -2);
        }
    }

    /** Promise 27, "and overwrites what was saved there": the whole of it. */
    private static void saveOverwritesWhatWasSaved() {
        RootRows rows = new RootRows();
        rows.set(0, 2);
        rows.set(1, 6);
        rows.setCell(7, LARGEST);
        Check.make(rows, 5, "H");
        rows.save(0);
        for (int i = 0; i < 4; i++) {
            rows.undo();
        }
        CHECK.due("save(0) over it", rows.save(0), 0);
        rows.setCell(6, 6);
        CHECK.due("restore(0)", rows.restore(0), 0);
        CHECK.isTrue("all is as at first", Seen.state(rows).equals(Seen.state(new RootRows())));
    }

    /** Promise 27, "Saves the settings, the cells and the formulas": what is changed behind it is not saved. */
    private static void whatIsChangedBehindASaveIsNotSaved() {
        for (int i = 0; i < CHANGES.length; i++) {
            RootRows rows = rich(6);
            rows.save(1);
            String saved = Seen.state(rows);
            CHANGES[i].on(rows);
            CHECK.isTrue(NAMES[i] + " makes a difference", !Seen.state(rows).equals(saved));
            rows.restore(1);
            CHECK.isTrue("what " + NAMES[i] + " did behind it is not saved", Seen.state(rows).equals(saved));
        }
    }

    /** Promise 27 says of no change: save records nothing, in a slot that is empty and in one that is not. */
    private static void saveIsNoChange() {
        RootRows rows = new RootRows();
        rows.save(0);
        rows.save(0);
        CHECK.due("count(2) of an empty history", rows.count(2), 0);
        CHECK.due("undo()", rows.undo(), -5);
        for (int i = 1; i <= 6; i++) {
            rows.setCell(0, i);
        }
        rows.save(0);
        rows.save(1);
        for (int left = 5; left >= 0; left--) {
            CHECK.due("undo() of a full history", rows.undo(), left);
        }
        CHECK.due("cell(0)", rows.cell(0), 0);
    }

    // ---- promise 28: restore

    /** Promise 28, "NOT_POSSIBLE if nothing was saved in it": each slot, also if the other one was saved in. */
    private static void restoreRefusesASlotInWhichNothingWasSaved() {
        CHECK.refused("restore(0) of a new object", RootRows::new, rows -> rows.restore(0), -5);
        CHECK.refused("restore(1) of a new object", RootRows::new, rows -> rows.restore(1), -5);
        CHECK.refused("restore(0) when 1 was saved in", Check::filled, rows -> rows.restore(0), -5);
        CHECK.refused("restore(1) when 0 was saved in", () -> rich(6), rows -> rows.restore(1), -5);
        RootRows rows = Check.filled();
        rows.save(-1);
        rows.save(2);
        CHECK.due("restore(0) behind saves that were refused", rows.restore(0), -5);
    }

    /** Promise 28, "BAD_VALUE if there is no such slot". */
    private static void restoreRefusesASlotThatThereIsNot() {
        for (int slot : Check.outside(0, 1)) {
            CHECK.refused("restore(" + slot + ")", rows -> rows.restore(slot), -2);
        }
    }

    /** Promise 28, the order of its errors: BAD_VALUE, then NOT_POSSIBLE: nothing was saved anywhere. */
    private static void restoreNamesTheSlotFirst() {
        for (int slot : Check.outside(0, 1)) {
            CHECK.refused("restore(" + slot + ") of a new object", RootRows::new, rows -> rows.restore(slot), -2);
        }
    }

    /** Promise 28, "Returns the set of formulas that are there then": none, and all. */
    private static void restoreReturnsTheSetOfFormulasThatAreThereThen() {
        RootRows rows = new RootRows();
        rows.save(0);
        for (int formula = 0; formula <= 5; formula++) {
            Check.make(rows, formula, "1");
        }
        rows.save(1);
        CHECK.due("restore(0)", rows.restore(0), 0);
        CHECK.due("count(0)", rows.count(0), 0);
        CHECK.due("restore(1)", rows.restore(1), 63);
        CHECK.due("count(0)", rows.count(0), 63);
    }

    /** Promise 28, "Restores what was saved last in a slot": an object that was saved when it was new, and a full one. */
    private static void restoreBringsBackAllThatWasSaved() {
        RootRows rows = new RootRows();
        rows.save(0);
        rows.set(0, 2);
        rows.set(1, 6);
        for (int cell = 0; cell < 8; cell++) {
            rows.setCell(cell, LARGEST - cell);
        }
        for (int formula = 0; formula <= 5; formula++) {
            Check.make(rows, formula, "" + (char) ('A' + formula));
        }
        rows.save(1);
        String full = Seen.state(rows);
        CHECK.due("restore(0)", rows.restore(0), 0);
        long[] counts = {0, 0, 6, 0, 3, 0};
        for (int what = 0; what < counts.length; what++) {
            CHECK.due("count(" + what + ") of the new one", rows.count(what), counts[what]);
        }
        CHECK.due("restore(1)", rows.restore(1), 63);
        CHECK.isTrue("the full one is back", Seen.state(rows).equals(full));
    }

    /** Promise 28, "which keeps it": it can be restored again and again, whatever is changed in between. */
    private static void theSlotKeepsIt() {
        RootRows rows = new RootRows();
        rows.setCell(0, 5);
        Check.make(rows, 0, "A+1");
        rows.save(0);
        for (int i = 0; i < 8; i++) {
            CHECK.due("restore(0)", rows.restore(0), 1);
            CHECK.due("cell(0)", rows.cell(0), 5);
            CHECK.due("value(0)", rows.value(0), 6);
            CHECK.due("count(3)", rows.count(3), 0);
            rows.setCell(0, i);
            rows.set(0, 2);
            Check.make(rows, 0, "0-1");
            Check.make(rows, 5, "1");
        }
        for (int i = 0; i < 6; i++) {
            rows.undo();
        }
        CHECK.due("restore(0) behind undo()", rows.restore(0), 1);
        CHECK.due("cell(0)", rows.cell(0), 5);
    }

    /** Promise 28, "This is a change": with an empty and with a full history; the pad stays as it is. */
    private static void restoreIsAChange() {
        RootRows rows = new RootRows();
        rows.save(0);
        Check.type(rows, "q(");
        CHECK.due("restore(0)", rows.restore(0), 0);
        CHECK.due("count(2)", rows.count(2), 1);
        CHECK.due("count(1)", rows.count(1), 2);
        for (int i = 1; i <= 6; i++) {
            rows.setCell(0, i);
        }
        rows.restore(0);
        CHECK.due("count(2) of a full one", rows.count(2), 6);
        CHECK.due("undo()", rows.undo(), 5);
        CHECK.due("cell(0)", rows.cell(0), 6);
        for (int i = 0; i < 5; i++) {
            rows.undo();
        }
        CHECK.due("cell(0): the oldest one was dropped", rows.cell(0), 1);
        CHECK.due("undo()", rows.undo(), -5);
    }
}
