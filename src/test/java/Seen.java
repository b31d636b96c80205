/** What can be seen of an object, as a text: two objects with the same text answer alike. */
final class Seen {
    private static final int CELLS = 8, FORMULAS = 6, SLOTS = 2, MOST_UNDONE = 8, PAD_SIZE = 60;

    private Seen() {
    }

    /** The settings, the cells and the formulas: what undo and restore bring back. */
    static String state(RootRows rows) {
        StringBuilder text = new StringBuilder("cells");
        for (int i = 0; i < CELLS; i++) {
            text.append(' ').append(rows.cell(i));
        }
        text.append(", settings ").append(rows.count(3)).append(' ').append(rows.count(4));
        text.append(", formulas ").append(rows.count(0));
        for (int i = 0; i < FORMULAS; i++) {
            text.append(' ').append(rows.value(i)).append('/').append(rows.ofFormula(i, 0));
        }
        return text.toString();
    }

    /** What can be seen without a change; 27 calls. */
    static String now(RootRows rows) {
        return state(rows) + ", counts " + rows.count(1) + ' ' + rows.count(2) + ' ' + rows.count(5) + ' ' + rows.fault();
    }

    /** All that can be seen, the history, the slots and the pad too; some 320 calls, which use the object up. */
    static String all(RootRows rows) {
        StringBuilder text = new StringBuilder(now(rows));
        for (int i = 0; i < MOST_UNDONE; i++) {
            int left = rows.undo();
            text.append("\nundo ").append(left);
            if (left < 0) {
                break;
            }
            text.append(": ").append(now(rows));
        }
        for (int slot = 0; slot < SLOTS; slot++) {
            text.append("\nrestore ").append(rows.restore(slot)).append(": ").append(now(rows));
        }
        int steps = rows.load(FORMULAS - 1);
        text.append("\npad ").append(steps).append(':');
        for (int i = 0; i < Math.min(steps, PAD_SIZE); i++) {
            text.append(' ').append(rows.stepValue(FORMULAS - 1, i));
        }
        return text.toString();
    }
}
