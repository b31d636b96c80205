/** Promises 2, 3, 4 and 14: settings, cells and counts. */
public final class SettingsTest {
    private static final Check CHECK = new Check("SettingsTest");
    private static final int FAR = Integer.MAX_VALUE;
    private static final int FAR_BELOW = Integer.MIN_VALUE;

    public static void main(String[] args) {
        set();
        setRefuses();
        setCell();
        setCellRefuses();
        cell();
        count();
        CHECK.end();
    }

    private static void set() {
        RootRows rows = new RootRows();
        CHECK.due("P2 set(0, 2)", rows.set(0, 2), 0);
        CHECK.due("P2 set(0, 1)", rows.set(0, 1), 2);
        CHECK.due("P2 set(0, 0)", rows.set(0, 0), 1);
        CHECK.due("P2 set(0, 0) again", rows.set(0, 0), 0);
        CHECK.due("P2 set(1, 6)", rows.set(1, 6), 3);
        CHECK.due("P2 set(1, 0)", rows.set(1, 0), 6);
        CHECK.due("P2 set(1, 4)", rows.set(1, 4), 0);
        CHECK.due("P2 count(3)", rows.count(3), 0);
        CHECK.due("P2 count(4)", rows.count(4), 4);
        CHECK.due("P2 six of seven changes can be undone", rows.count(2), 6);
    }

    private static void setRefuses() {
        RootRows rows = new RootRows();
        int[][] wrong = {{-1, 0}, {2, 0}, {FAR, 1}, {FAR_BELOW, 1}, {0, 3}, {0, -1}, {0, 6}, {0, FAR}, {0, FAR_BELOW},
            {1, 7}, {1, -1}, {1, FAR}, {1, FAR_BELOW}, {2, 9}};
        for (int[] pair : wrong) {
            CHECK.due("P2 set(" + pair[0] + ", " + pair[1] + ")", rows.set(pair[0], pair[1]), -2);
        }
        CHECK.due("P2 count(3) after errors", rows.count(3), 0);
        CHECK.due("P2 count(4) after errors", rows.count(4), 3);
        CHECK.due("P2 count(2) after errors", rows.count(2), 0);
    }

    private static void setCell() {
        RootRows rows = new RootRows();
        for (int i = 0; i < 8; i++) {
            CHECK.due("P3 setCell(" + i + ")", rows.setCell(i, 1000 + i), 0);
        }
        for (int i = 0; i < 8; i++) {
            CHECK.due("P3 cell(" + i + ")", rows.cell(i), 1000 + i);
        }
        CHECK.due("P3 setCell(7, LARGEST)", rows.setCell(7, 1_000_000_000_000L), 1007);
        CHECK.due("P3 setCell(7, 0)", rows.setCell(7, 0), 1_000_000_000_000L);
        CHECK.due("P3 setCell(7, 0) again", rows.setCell(7, 0), 0);
        CHECK.due("P3 cell(6)", rows.cell(6), 1006);
        CHECK.due("P3 cell(7)", rows.cell(7), 0);
    }

    private static void setCellRefuses() {
        RootRows rows = new RootRows();
        rows.setCell(2, 5);
        for (int cell : new int[] {-1, 8, 9, FAR, FAR_BELOW}) {
            CHECK.due("P3 setCell(" + cell + ", 1)", rows.setCell(cell, 1), -1);
            CHECK.due("P3 no such cell is named ahead of a bad value", rows.setCell(cell, -1), -1);
        }
        for (long value : new long[] {-1, 1_000_000_000_001L, Long.MAX_VALUE, Long.MIN_VALUE, -1_000_000_000_000L}) {
            CHECK.due("P3 setCell(2, " + value + ")", rows.setCell(2, value), -2);
        }
        CHECK.due("P3 cell(2) after errors", rows.cell(2), 5);
        CHECK.due("P3 count(2) after errors", rows.count(2), 1);
    }

    private static void cell() {
        RootRows rows = new RootRows();
        rows.setCell(0, 11);
        rows.setCell(7, 1_000_000_000_000L);
        CHECK.due("P4 cell(0)", rows.cell(0), 11);
        CHECK.due("P4 cell(7)", rows.cell(7), 1_000_000_000_000L);
        for (int cell : new int[] {-1, 8, FAR, FAR_BELOW}) {
            CHECK.due("P4 cell(" + cell + ")", rows.cell(cell), -1);
        }
        CHECK.due("P4 cell is no change", rows.count(2), 2);
    }

    private static void count() {
        RootRows rows = new RootRows();
        rows.set(0, 2);
        rows.set(1, 5);
        rows.setCell(1, 3);
        rows.setCell(6, 1);
        rows.setCell(2, 1);
        rows.setCell(2, 0);
        CHECK.due("P14 count(2)", rows.count(2), 6);
        Check.make(rows, 0, "1");
        Check.make(rows, 5, "2");
        Check.type(rows, "!!!");
        int[] due = {33, 3, 6, 2, 5, 2};
        for (int what = 0; what < due.length; what++) {
            CHECK.due("P14 count(" + what + ")", rows.count(what), due[what]);
        }
        for (int what : new int[] {-1, 6, 7, FAR, FAR_BELOW}) {
            CHECK.due("P14 count(" + what + ")", rows.count(what), -2);
        }
    }
}
