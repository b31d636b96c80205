/** Promises 26 to 28: undo, saving, restoring. */
public final class HistoryTest {
    private static final Check CHECK = new Check("HistoryTest");
    private static final int[] NO_SLOTS = {-1, 2, 3, Integer.MAX_VALUE, Integer.MIN_VALUE};

    public static void main(String[] args) {
        undoOfEachChange();
        sixStates();
        manyChanges();
        undoIsNoChange();
        whatIsNoChange();
        errorsRecordNothing();
        samePlacesRecordToo();
        thePadIsNotUndone();
        saveAndRestore();
        slotsAreKept();
        undoLeavesTheSlots();
        slotRefuses();
        CHECK.end();
    }

    private static void undoOfEachChange() {
        RootRows rows = new RootRows();
        CHECK.due("P26 undo() of a new object", rows.undo(), -5);
        rows.set(0, 1);
        rows.setCell(0, 40);
        Check.make(rows, 2, "A+2");
        rows.assign(1, 2);
        rows.settle(0, 2, 3);
        CHECK.due("P26 count(2)", rows.count(2), 5);
        CHECK.due("P26 undo() of settle", rows.undo(), 4);
        CHECK.due("P26 cell(0)", rows.cell(0), 40);
        CHECK.due("P26 cell(1)", rows.cell(1), 42);
        CHECK.due("P26 undo() of assign", rows.undo(), 3);
        CHECK.due("P26 cell(1)", rows.cell(1), 0);
        CHECK.due("P26 value(2)", rows.value(2), 42);
        CHECK.due("P26 undo() of load", rows.undo(), 2);
        CHECK.due("P26 value(2)", rows.value(2), -1);
        CHECK.due("P26 count(0)", rows.count(0), 0);
        CHECK.due("P26 undo() of setCell", rows.undo(), 1);
        CHECK.due("P26 cell(0)", rows.cell(0), 0);
        CHECK.due("P26 count(3)", rows.count(3), 1);
        CHECK.due("P26 undo() of set", rows.undo(), 0);
        CHECK.due("P26 count(3)", rows.count(3), 0);
        CHECK.due("P26 undo() of nothing", rows.undo(), -5);
        CHECK.due("P26 count(2)", rows.count(2), 0);
    }

    private static void sixStates() {
        RootRows rows = new RootRows();
        for (int i = 1; i <= 8; i++) {
            rows.setCell(0, i);
            CHECK.due("P26 count(2) behind " + i, rows.count(2), Math.min(i, 6));
        }
        for (int left = 5; left >= 0; left--) {
            CHECK.due("P26 undo()", rows.undo(), left);
            CHECK.due("P26 cell(0)", rows.cell(0), left + 2);
        }
        CHECK.due("P26 the oldest ones are dropped", rows.undo(), -5);
        CHECK.due("P26 cell(0)", rows.cell(0), 2);
    }

    /** Up and down again and again, so that every place of the history comes to be the oldest one. */
    private static void manyChanges() {
        for (int up = 1; up <= 9; up++) {
            RootRows rows = new RootRows();
            Model model = new Model();
            for (int round = 0; round < 8; round++) {
                for (int i = 0; i < up; i++) {
                    rows.setCell(i % 8, round * 10 + i);
                    model.setCell(i % 8, round * 10 + i);
                }
                for (int i = 0; i < (round * 5 + 2) % 7; i++) {
                    CHECK.due("P26 undo() in a row of many", rows.undo(), model.undo());
                }
                for (int cell = 0; cell < 8; cell++) {
                    CHECK.due("P26 cell(" + cell + ") in a row of many", rows.cell(cell), model.cell(cell));
                }
            }
        }
    }

    private static void undoIsNoChange() {
        RootRows rows = new RootRows();
        rows.setCell(0, 1);
        rows.setCell(0, 2);
        CHECK.due("P26 undo()", rows.undo(), 1);
        CHECK.due("P26 undo() goes on", rows.undo(), 0);
        CHECK.due("P26 cell(0)", rows.cell(0), 0);
        rows.setCell(0, 3);
        CHECK.due("P26 a change behind it", rows.count(2), 1);
        CHECK.due("P26 undo()", rows.undo(), 0);
        CHECK.due("P26 cell(0)", rows.cell(0), 0);
    }

    private static void whatIsNoChange() {
        RootRows rows = new RootRows();
        Check.make(rows, 0, "A");
        rows.put('A');
        rows.fault();
        rows.wipe();
        rows.value(0);
        rows.ofFormula(0, 3);
        rows.stepValue(0, 0);
        rows.cell(0);
        rows.save(0);
        rows.save(1);
        CHECK.due("P26 what is no change records nothing", rows.count(2), 1);
    }

    private static void errorsRecordNothing() {
        RootRows rows = new RootRows();
        Check.make(rows, 0, "0-1");
        rows.set(2, 0);
        rows.set(0, 3);
        rows.setCell(8, 0);
        rows.setCell(0, -1);
        rows.load(6);
        rows.load(1);
        rows.assign(0, 0);
        rows.assign(8, 0);
        rows.settle(0, 1, 1);
        rows.settle(0, 0, 0);
        rows.restore(0);
        rows.restore(2);
        CHECK.due("P26 errors record nothing", rows.count(2), 1);
        CHECK.due("P26 undo()", rows.undo(), 0);
        CHECK.due("P26 undo()", rows.undo(), -5);
    }

    private static void samePlacesRecordToo() {
        RootRows rows = new RootRows();
        rows.set(0, 0);
        rows.setCell(0, 0);
        Check.make(rows, 0, "A");
        Check.make(rows, 0, "A");
        rows.assign(0, 0);
        rows.settle(0, 0, 5);
        CHECK.due("P26 six changes by which nothing is different", rows.count(2), 6);
        rows.undo();
        rows.undo();
        rows.undo();
        CHECK.due("P26 count(0) with the first formula", rows.count(0), 1);
        rows.undo();
        CHECK.due("P26 count(0) without it", rows.count(0), 0);
        CHECK.due("P26 count(2)", rows.count(2), 2);
    }

    private static void thePadIsNotUndone() {
        RootRows rows = new RootRows();
        Check.make(rows, 0, "1+2");
        Check.make(rows, 0, "5");
        Check.type(rows, "q(");
        CHECK.due("P26 undo()", rows.undo(), 1);
        CHECK.due("P26 count(1)", rows.count(1), 2);
        CHECK.due("P26 fault()", rows.fault(), 2);
        CHECK.due("P26 value(0)", rows.value(0), 3);
        rows.wipe();
        CHECK.due("P26 undo()", rows.undo(), 0);
        CHECK.due("P26 count(1)", rows.count(1), 0);
    }

    private static void saveAndRestore() {
        RootRows rows = new RootRows();
        rows.set(0, 1);
        rows.set(1, 6);
        rows.setCell(3, 77);
        Check.make(rows, 1, "D*2");
        Check.make(rows, 4, "D");
        CHECK.due("P27 save(0)", rows.save(0), 18);
        Check.make(rows, 1, "9");
        Check.make(rows, 5, "9");
        rows.set(0, 2);
        rows.set(1, 0);
        rows.setCell(3, 5);
        rows.setCell(7, 5);
        Check.type(rows, "abc");
        CHECK.due("P28 restore(0)", rows.restore(0), 18);
        CHECK.due("P28 count(0)", rows.count(0), 18);
        CHECK.due("P28 the pad stays", rows.count(1), 3);
        CHECK.due("P28 count(2)", rows.count(2), 6);
        CHECK.due("P28 count(3)", rows.count(3), 1);
        CHECK.due("P28 count(4)", rows.count(4), 6);
        CHECK.due("P28 count(5)", rows.count(5), 1);
        CHECK.due("P28 cell(3)", rows.cell(3), 77);
        CHECK.due("P28 value(1)", rows.value(1), 154);
        CHECK.due("P28 value(4)", rows.value(4), 77);
        CHECK.due("P28 value(5)", rows.value(5), -1);
        CHECK.due("P26 undo() of restore", rows.undo(), 5);
        CHECK.due("P26 count(0)", rows.count(0), 50);
        CHECK.due("P26 count(3)", rows.count(3), 2);
        CHECK.due("P26 count(4)", rows.count(4), 0);
        CHECK.due("P26 cell(3)", rows.cell(3), 5);
        CHECK.due("P26 cell(7)", rows.cell(7), 5);
        CHECK.due("P26 value(1)", rows.value(1), 9);
    }

    private static void slotsAreKept() {
        RootRows rows = new RootRows();
        CHECK.due("P27 save(1) of a new object", rows.save(1), 0);
        rows.setCell(0, 1);
        CHECK.due("P27 save(0)", rows.save(0), 0);
        rows.setCell(0, 2);
        CHECK.due("P28 restore(1)", rows.restore(1), 0);
        CHECK.due("P28 cell(0) of slot 1", rows.cell(0), 0);
        CHECK.due("P28 restore(0)", rows.restore(0), 0);
        CHECK.due("P28 cell(0) of slot 0", rows.cell(0), 1);
        rows.setCell(0, 3);
        Check.make(rows, 0, "A");
        CHECK.due("P28 restore(0) once more", rows.restore(0), 0);
        CHECK.due("P28 cell(0) of slot 0, which keeps it", rows.cell(0), 1);
        rows.setCell(0, 4);
        CHECK.due("P27 save(0) over it", rows.save(0), 0);
        rows.setCell(0, 5);
        rows.restore(0);
        CHECK.due("P28 what was saved last", rows.cell(0), 4);
        rows.restore(1);
        CHECK.due("P28 the other slot still", rows.cell(0), 0);
    }

    private static void undoLeavesTheSlots() {
        RootRows rows = new RootRows();
        rows.setCell(0, 8);
        rows.save(0);
        CHECK.due("P26 undo()", rows.undo(), 0);
        CHECK.due("P27 save recorded nothing", rows.cell(0), 0);
        CHECK.due("P28 restore(0)", rows.restore(0), 0);
        CHECK.due("P28 cell(0)", rows.cell(0), 8);
        CHECK.due("P28 restore is a change", rows.count(2), 1);
        CHECK.due("P26 undo()", rows.undo(), 0);
        CHECK.due("P26 cell(0)", rows.cell(0), 0);
        CHECK.due("P28 restore(0) again", rows.restore(0), 0);
        CHECK.due("P28 cell(0) again", rows.cell(0), 8);
    }

    private static void slotRefuses() {
        RootRows rows = new RootRows();
        rows.setCell(0, 6);
        for (int slot : NO_SLOTS) {
            CHECK.due("P27 save(" + slot + ")", rows.save(slot), -2);
            CHECK.due("P28 restore(" + slot + ")", rows.restore(slot), -2);
        }
        CHECK.due("P28 restore(0) of nothing", rows.restore(0), -5);
        rows.save(0);
        CHECK.due("P28 restore(1) of nothing", rows.restore(1), -5);
        CHECK.due("P28 cell(0) after errors", rows.cell(0), 6);
        CHECK.due("P28 count(2) after errors", rows.count(2), 1);
    }
}
