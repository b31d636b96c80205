/**
 * The boundary cases of the promises 1 to 10: a new object, settings, cells, the pad, and cells that are set by
 * formulas. A method holds one sentence, which its comment quotes.
 */
public final class CellEdgesTest {
    private static final Check CHECK = new Check("CellEdgesTest");
    private static final long LARGEST = 1_000_000_000_000L;

    public static void main(String[] args) {
        CHECK.runAll(CellEdgesTest.class);
        CHECK.end();
    }

    /** A pad of so many characters; those at even places are digits, so that an odd number of them has no fault. */
    private static RootRows padOf(int length) {
        RootRows rows = new RootRows();
        Check.type(rows, "1+".repeat(30).substring(0, length));
        return rows;
    }

    // ---- promise 1: a new object

    /** Promise 1, "Creates it without formulas." */
    private static void aNewObjectHasNoFormulas() {
        RootRows rows = new RootRows();
        CHECK.due("count(0)", rows.count(0), 0);
        for (int formula = 0; formula < 6; formula++) {
            CHECK.due("value(" + formula + ")", rows.value(formula), -1);
            CHECK.due("ofFormula(" + formula + ", 0)", rows.ofFormula(formula, 0), -1);
            CHECK.due("stepValue(" + formula + ", 0)", rows.stepValue(formula, 0), -1);
        }
    }

    /** Promise 1, with the first values of the terms: all else is empty, too. */
    private static void aNewObjectIsEmpty() {
        RootRows rows = new RootRows();
        long[] counts = {0, 0, 0, 0, 3, 0};
        for (int what = 0; what < counts.length; what++) {
            CHECK.due("count(" + what + ")", rows.count(what), counts[what]);
        }
        for (int cell = 0; cell < 8; cell++) {
            CHECK.due("cell(" + cell + ")", rows.cell(cell), 0);
        }
        CHECK.due("fault()", rows.fault(), 0);
        CHECK.due("undo()", rows.undo(), -5);
        CHECK.due("restore(0)", rows.restore(0), -5);
        CHECK.due("restore(1)", rows.restore(1), -5);
    }

    // ---- promise 2: set

    /** Promise 2, "Returns the previous value": over the whole range of both. */
    private static void setReturnsThePreviousValue() {
        RootRows rows = new RootRows();
        for (int setting = 0; setting <= 1; setting++) {
            int before = setting == 0 ? 0 : 3;
            for (int value = 0; value <= (setting == 0 ? 2 : 6); value++) {
                CHECK.due("set(" + setting + ", " + value + ")", rows.set(setting, value), before);
                CHECK.due("count(" + (3 + setting) + ")", rows.count(3 + setting), value);
                before = value;
            }
            CHECK.due("set(" + setting + ", 0)", rows.set(setting, 0), before);
            CHECK.due("set(" + setting + ", 0) again", rows.set(setting, 0), 0);
        }
    }

    /** Promise 2, "BAD_VALUE if there is no such setting". */
    private static void setRefusesASettingThatThereIsNot() {
        for (int setting : Check.outside(0, 1)) {
            for (int value = 0; value <= 2; value++) {
                int given = value;
                CHECK.refused("set(" + setting + ", " + given + ")", rows -> rows.set(setting, given), -2);
            }
        }
    }

    /** Promise 2, "BAD_VALUE if ... the value is out of its range", of ROUND. */
    private static void setRefusesARoundOutOfItsRange() {
        for (int value : Check.outside(0, 2)) {
            CHECK.refused("set(0, " + value + ")", rows -> rows.set(0, value), -2);
        }
        CHECK.refused("set(0, 6), which DIGITS may be", rows -> rows.set(0, 6), -2);
    }

    /** Promise 2, "BAD_VALUE if ... the value is out of its range", of DIGITS. */
    private static void setRefusesDigitsOutOfTheirRange() {
        for (int value : Check.outside(0, 6)) {
            CHECK.refused("set(1, " + value + ")", rows -> rows.set(1, value), -2);
        }
    }

    /** Promise 2, "This is a change." */
    private static void setIsAChange() {
        RootRows rows = new RootRows();
        rows.set(0, 2);
        rows.set(1, 6);
        CHECK.due("count(2)", rows.count(2), 2);
        CHECK.due("undo()", rows.undo(), 1);
        CHECK.due("DIGITS then", rows.count(4), 3);
        CHECK.due("undo()", rows.undo(), 0);
        CHECK.due("ROUND then", rows.count(3), 0);
    }

    // ---- promise 3: setCell

    /** Promise 3, "`value`: 0 to LARGEST", and "Returns the previous value". */
    private static void setCellTakes0ToLargest() {
        RootRows rows = new RootRows();
        for (int cell = 0; cell < 8; cell++) {
            CHECK.due("setCell(" + cell + ", LARGEST)", rows.setCell(cell, LARGEST), 0);
            CHECK.due("setCell(" + cell + ", LARGEST) again", rows.setCell(cell, LARGEST), LARGEST);
            CHECK.due("setCell(" + cell + ", 1)", rows.setCell(cell, 1), LARGEST);
            CHECK.due("setCell(" + cell + ", 0)", rows.setCell(cell, 0), 1);
            CHECK.due("setCell(" + cell + ")", rows.setCell(cell, 100 + cell), 0);
        }
        for (int cell = 0; cell < 8; cell++) {
            CHECK.due("cell(" + cell + ")", rows.cell(cell), 100 + cell);
        }
    }

    /** Promise 3, "NO_SUCH if there is no such cell". */
    private static void setCellRefusesACellThatThereIsNot() {
        for (int cell : Check.outside(0, 7)) {
            CHECK.refused("setCell(" + cell + ", 1)", rows -> rows.setCell(cell, 1), -1);
        }
    }

    /** Promise 3, "BAD_VALUE if value is out of range". */
    private static void setCellRefusesAValueOutOfRange() {
        for (long value : Check.outsideLong(0, LARGEST)) {
            CHECK.refused("setCell(0, " + value + ")", rows -> rows.setCell(0, value), -2);
            CHECK.refused("setCell(7, " + value + ")", rows -> rows.setCell(7, value), -2);
        }
    }

    /** Promise 3, the order of its errors: NO_SUCH, then BAD_VALUE. */
    private static void setCellNamesTheCellFirst() {
        for (int cell : Check.outside(0, 7)) {
            for (long value : Check.outsideLong(0, LARGEST)) {
                CHECK.due("setCell(" + cell + ", " + value + ")", new RootRows().setCell(cell, value), -1);
            }
        }
    }

    /** Promise 3, "This is a change." */
    private static void setCellIsAChange() {
        RootRows rows = new RootRows();
        rows.setCell(0, LARGEST);
        rows.setCell(7, 0);
        CHECK.due("count(2)", rows.count(2), 2);
        rows.undo();
        rows.undo();
        CHECK.due("cell(0) then", rows.cell(0), 0);
    }

    // ---- promise 4: cell

    /** Promise 4, "Returns the value of a cell": the first and the last one, at 0 and at LARGEST. */
    private static void cellReturns0AndLargest() {
        RootRows rows = new RootRows();
        CHECK.due("cell(0)", rows.cell(0), 0);
        CHECK.due("cell(7)", rows.cell(7), 0);
        rows.setCell(0, LARGEST);
        CHECK.due("cell(0) then", rows.cell(0), LARGEST);
        rows.setCell(7, LARGEST - 1);
        CHECK.due("cell(7) then", rows.cell(7), LARGEST - 1);
        CHECK.due("cell(1) then", rows.cell(1), 0);
        CHECK.due("cell(6) then", rows.cell(6), 0);
    }

    /** Promise 4, "NO_SUCH if there is no such cell." */
    private static void cellRefusesACellThatThereIsNot() {
        for (int cell : Check.outside(0, 7)) {
            CHECK.refused("cell(" + cell + ")", rows -> rows.cell(cell), -1);
        }
    }

    // ---- promise 5: put

    /** Promise 5, "`characters`: 1 to 8 characters", and "Returns the length of the pad then". */
    private static void putTakes1To8Characters() {
        for (int size = 1; size <= 8; size++) {
            RootRows rows = new RootRows();
            CHECK.due("put of " + size, rows.put(Check.packed("1+1+1+1+".substring(0, size))), size);
            CHECK.due("put of " + size + " more", rows.put(Check.packed("1+1+1+1+".substring(0, size))), 2 * size);
            CHECK.due("count(1)", rows.count(1), 2 * size);
        }
    }

    /** Promise 5, "its lowest 8 bits are the last character, the next 8 bits the one before, and so on". */
    private static void theLowestBitsAreTheLastCharacter() {
        RootRows rows = new RootRows();
        rows.put(0x392d36L);
        CHECK.due("load(0) of 9-6", rows.load(0), 3);
        CHECK.due("value(0)", rows.value(0), 3);
        rows.put(0x3132333435363738L);
        CHECK.due("fault() of 12345678", rows.fault(), 4);
        rows.wipe();
        rows.put(0x482d472d462d4541L);
        CHECK.due("fault() of H-G-F-EA", rows.fault(), 7);
        rows.wipe();
        rows.put('9');
        rows.put(('8' << 8) | '7');
        CHECK.due("load(1) of 9 and 87", rows.load(1), 1);
        CHECK.due("value(1)", rows.value(1), 987);
    }

    /** Promise 5, "8 bits that are 0 mean that there are no more characters". */
    private static void theBitsAboveTheFirstCharacterAre0() {
        for (int size = 1; size <= 8; size++) {
            RootRows rows = new RootRows();
            long ones = 0x3131313131313131L >>> (8 * (8 - size));
            CHECK.due("put(0x" + Long.toHexString(ones) + ")", rows.put(ones), size);
        }
    }

    /** Promise 5, "BAD_VALUE if there is no character". */
    private static void putRefusesNoCharacter() {
        CHECK.refused("put(0)", rows -> rows.put(0), -2);
    }

    /** Promise 5, "a code is not 33 to 126": the least and the greatest code, at each of the 8 places. */
    private static void putTakesTheCodes33And126() {
        for (int place = 0; place < 8; place++) {
            long others = 0x4141414141414141L & ~(255L << (8 * place));
            CHECK.due("put with 33 at " + place, new RootRows().put(others | 33L << (8 * place)), 8);
            CHECK.due("put with 126 at " + place, new RootRows().put(others | 126L << (8 * place)), 8);
        }
        CHECK.due("put(33)", new RootRows().put(33), 1);
        CHECK.due("put(126)", new RootRows().put(126), 1);
    }

    /** Promise 5, "BAD_VALUE if ... a code is not 33 to 126": the ones outside, at each of the 8 places. */
    private static void putRefusesOtherCodes() {
        for (long code : new long[] {1, 10, 32, 127, 128, 160, 161, 254, 255}) {
            for (int place = 0; place < 8; place++) {
                long number = 0x4141414141414141L & ~(255L << (8 * place)) | code << (8 * place);
                CHECK.refused("put(0x" + Long.toHexString(number) + ")", rows -> rows.put(number), -2);
            }
            CHECK.refused("put(" + code + ")", rows -> rows.put(code), -2);
        }
    }

    /** Promise 5, "BAD_VALUE if ... a bit above 8 bits that are 0 is not 0": each such bit alone. */
    private static void putRefusesABitAbove8BitsThatAre0() {
        for (int place = 0; place < 7; place++) {
            long below = place == 0 ? 0 : 0x4141414141414141L >>> (8 * (8 - place));
            for (int bit = 8 * (place + 1); bit < 64; bit++) {
                long number = below | 1L << bit;
                CHECK.due("put(0x" + Long.toHexString(number) + ")", new RootRows().put(number), -2);
            }
            long whole = below | 0x41L << (8 * (place + 1));
            CHECK.refused("put(0x" + Long.toHexString(whole) + ")", rows -> rows.put(whole), -2);
        }
    }

    /** Promise 5, BAD_VALUE: the least and the greatest number, and those around 0. */
    private static void putRefusesTheLeastAndTheGreatestLong() {
        for (long number : new long[] {Long.MIN_VALUE, Long.MAX_VALUE, -1, 1, 0, Integer.MIN_VALUE, Integer.MAX_VALUE,
            -0x4141414141414141L}) {
            CHECK.refused("put(" + number + ")", rows -> rows.put(number), -2);
        }
    }

    /** Promise 5, "TOO_MANY if the pad would be longer than 60": 60 is not too many, 61 is. */
    private static void putFillsThePadUpTo60() {
        for (int size = 1; size <= 8; size++) {
            long characters = 0x3131313131313131L >>> (8 * (8 - size));
            int fits = 60 - size;
            CHECK.due("put of " + size + " behind " + fits, padOf(fits).put(characters), 60);
            CHECK.refused("put of " + size + " behind " + (fits + 1), () -> padOf(fits + 1),
                rows -> rows.put(characters), -4);
            CHECK.refused("put of " + size + " behind 60", () -> padOf(60), rows -> rows.put(characters), -4);
        }
    }

    /** Promise 5, the order of its errors: BAD_VALUE, then TOO_MANY. */
    private static void putNamesABadValueFirst() {
        for (long number : new long[] {0, 32, 127, -1, 0x4100, 0x410041, Long.MIN_VALUE, Long.MAX_VALUE,
            0x2041414141414141L, 0x4141414141414120L}) {
            CHECK.refused("put(0x" + Long.toHexString(number) + ") behind 60", () -> padOf(60), rows -> rows.put(number), -2);
            CHECK.refused("put(0x" + Long.toHexString(number) + ") behind 53", () -> padOf(53), rows -> rows.put(number), -2);
        }
    }

    // ---- promise 6: wipe

    /** Promise 6, "Empties the pad, and returns the length that it had": an empty, a short and a full one. */
    private static void wipeReturns0To60() {
        CHECK.due("wipe() of an empty pad", new RootRows().wipe(), 0);
        for (int length : new int[] {1, 59, 60}) {
            RootRows rows = padOf(length);
            CHECK.due("wipe() of " + length, rows.wipe(), length);
            CHECK.due("count(1)", rows.count(1), 0);
            CHECK.due("fault()", rows.fault(), 0);
            CHECK.due("wipe() again", rows.wipe(), 0);
        }
    }

    /** Promise 6, "Empties the pad": 60 characters have room again, and nothing of the old ones is left. */
    private static void wipeMakesRoomFor60() {
        RootRows rows = padOf(60);
        rows.wipe();
        CHECK.due("put(7)", rows.put('7'), 1);
        CHECK.due("fault()", rows.fault(), -6);
        rows.wipe();
        Check.type(rows, "1+".repeat(30));
        CHECK.due("count(1)", rows.count(1), 60);
    }

    // ---- promise 7: fault

    /** Promise 7, "Returns the fault of the pad": 0 of an empty one, 60 of a full one. */
    private static void faultOfAnEmptyAndOfAFullPad() {
        CHECK.due("fault() of an empty pad", new RootRows().fault(), 0);
        CHECK.due("fault() of 60 that end too early", padOf(60).fault(), 60);
        RootRows rows = padOf(59);
        rows.put('!');
        CHECK.due("fault() at the last of 60", rows.fault(), 59);
        rows = new RootRows();
        rows.put('!');
        CHECK.due("fault() at the first", rows.fault(), 0);
    }

    /** Promise 7, "NONE if there is none." */
    private static void faultIsNoneOf1AndOf60Characters() {
        CHECK.due("fault() of 1 character", padOf(1).fault(), -6);
        CHECK.due("fault() of 59", padOf(59).fault(), -6);
        RootRows rows = padOf(59);
        rows.put('0');
        CHECK.due("fault() of 60", rows.fault(), -6);
        CHECK.due("count(1): it changes nothing", rows.count(1), 60);
        CHECK.due("fault() again", rows.fault(), -6);
    }

    /** Promise 7, "Returns the fault of the pad": what was read before is no part of it. */
    private static void faultReadsThePadAnew() {
        RootRows rows = new RootRows();
        String[] texts = {"((1", "1)", "q(", "7", "1+2*", "3", "(1+(2*(", "4)", "99999", "5", "12", "", "q", "(8)"};
        int[] due = {3, 1, 2, -6, 4, -6, 7, 1, 4, -6, -6, 0, 1, -6};
        for (int i = 0; i < texts.length; i++) {
            CHECK.due("fault() of " + texts[i], Check.faultOf(rows, texts[i]), due[i]);
            CHECK.due("fault() of " + texts[i] + " once more", rows.fault(), due[i]);
        }
    }

    // ---- promise 8: load

    /** Promise 8, "`formula`: 0 to 5", and "Returns how many steps it has". */
    private static void loadTakesTheFormulas0To5() {
        RootRows rows = new RootRows();
        for (int formula = 0; formula <= 5; formula++) {
            CHECK.due("load(" + formula + ")", Check.make(rows, formula, "8" + "+A".repeat(formula)), 1 + 2 * formula);
            CHECK.due("count(0)", rows.count(0), (2 << formula) - 1);
        }
    }

    /** Promise 8, "Returns how many steps it has": 1 at least, 59 at most. */
    private static void loadReturns1To59Steps() {
        RootRows rows = new RootRows();
        CHECK.due("load of 1 character", Check.make(rows, 0, "0"), 1);
        CHECK.due("load of 60 that are one step", Check.make(rows, 0, "(".repeat(28) + "9999" + ")".repeat(28)), 1);
        CHECK.due("load of 59 that are 59 steps", Check.make(rows, 0, "1" + "*1".repeat(29)), 59);
        CHECK.due("load of 60 that are 59 steps", Check.make(rows, 0, "10" + "-0".repeat(29)), 59);
        CHECK.due("value of it", rows.value(0), 10);
    }

    /** Promise 8, "in place of the one with this number": the others stay. */
    private static void loadPutsItInPlaceOfTheOneWithThisNumber() {
        RootRows rows = new RootRows();
        for (int formula = 0; formula <= 5; formula++) {
            Check.make(rows, formula, "5" + formula);
        }
        for (int formula = 0; formula <= 5; formula += 5) {
            CHECK.due("load(" + formula + ") again", Check.make(rows, formula, "1+1"), 3);
            CHECK.due("value(" + formula + ")", rows.value(formula), 2);
        }
        for (int formula = 1; formula <= 4; formula++) {
            CHECK.due("value(" + formula + ")", rows.value(formula), 50 + formula);
        }
    }

    /** Promise 8, "and empties the pad": of 1 character and of 60. */
    private static void loadEmptiesThePad() {
        RootRows rows = new RootRows();
        Check.make(rows, 0, "1");
        CHECK.due("count(1)", rows.count(1), 0);
        Check.make(rows, 0, "10" + "+1".repeat(29));
        CHECK.due("count(1)", rows.count(1), 0);
        CHECK.due("fault()", rows.fault(), 0);
        CHECK.due("load(0) of the empty pad", rows.load(0), -3);
    }

    /** Promise 8, "NO_SUCH if formula is out of range". */
    private static void loadRefusesAFormulaOutOfRange() {
        for (int formula : Check.outside(0, 5)) {
            CHECK.refused("load(" + formula + ")", rows -> rows.load(formula), -1);
        }
    }

    /** Promise 8, "BAD_TEXT if the pad has a fault": also one that is empty, or full. */
    private static void loadRefusesATextWithAFault() {
        CHECK.refused("load of an empty pad", RootRows::new, rows -> rows.load(0), -3);
        CHECK.refused("load of 60 characters that end too early", () -> padOf(60), rows -> rows.load(5), -3);
        for (String text : new String[] {"+", "1+", "10000", "00", "I", "q(", "1)", "((1)"}) {
            CHECK.refused("load of " + text, () -> withPad(text), rows -> rows.load(0), -3);
            CHECK.refused("load of " + text + " in place of none", () -> withPad(text), rows -> rows.load(2), -3);
        }
    }

    private static RootRows withPad(String text) {
        RootRows rows = Check.filled();
        rows.wipe();
        Check.type(rows, text);
        return rows;
    }

    /** Promise 8, the order of its errors: NO_SUCH, then BAD_TEXT. */
    private static void loadNamesTheFormulaFirst() {
        for (int formula : Check.outside(0, 5)) {
            CHECK.refused("load(" + formula + ") of an empty pad", RootRows::new, rows -> rows.load(formula), -1);
            CHECK.refused("load(" + formula + ") of 1+", () -> withPad("1+"), rows -> rows.load(formula), -1);
        }
    }

    /** Promise 8, "This is a change." */
    private static void loadIsAChange() {
        RootRows rows = new RootRows();
        Check.make(rows, 0, "1");
        Check.make(rows, 0, "1");
        CHECK.due("count(2)", rows.count(2), 2);
        CHECK.due("undo()", rows.undo(), 1);
        CHECK.due("count(0)", rows.count(0), 1);
        CHECK.due("undo()", rows.undo(), 0);
        CHECK.due("count(0)", rows.count(0), 0);
    }

    // ---- promise 9: assign

    /** Promise 9, "Returns the value": 0 and LARGEST, for the first and the last cell and formula. */
    private static void assignReturns0AndLargest() {
        RootRows rows = new RootRows();
        Check.make(rows, 0, "s(s(1000))");
        Check.make(rows, 5, "1-1");
        CHECK.due("assign(0, 0)", rows.assign(0, 0), LARGEST);
        CHECK.due("assign(7, 0)", rows.assign(7, 0), LARGEST);
        CHECK.due("cell(0)", rows.cell(0), LARGEST);
        CHECK.due("cell(7)", rows.cell(7), LARGEST);
        CHECK.due("assign(7, 5)", rows.assign(7, 5), 0);
        CHECK.due("assign(0, 5)", rows.assign(0, 5), 0);
        CHECK.due("cell(7)", rows.cell(7), 0);
        CHECK.due("cell(0)", rows.cell(0), 0);
    }

    /** Promise 9, "NO_SUCH if there is no such cell". */
    private static void assignRefusesACellThatThereIsNot() {
        for (int cell : Check.outside(0, 7)) {
            CHECK.refused("assign(" + cell + ", 1)", rows -> rows.assign(cell, 1), -1);
        }
    }

    /** Promise 9, "NO_SUCH if there is no such ... formula": a number out of range, or nothing loaded there. */
    private static void assignRefusesAFormulaThatThereIsNot() {
        for (int formula : Check.outside(0, 5)) {
            CHECK.refused("assign(0, " + formula + ")", rows -> rows.assign(0, formula), -1);
        }
        for (int formula : new int[] {2, 3, 5}) {
            CHECK.refused("assign(7, " + formula + ")", rows -> rows.assign(7, formula), -1);
        }
        CHECK.refused("assign(0, 0) of a new object", RootRows::new, rows -> rows.assign(0, 0), -1);
    }

    /** Promise 9, "NOT_POSSIBLE if the formula has no value": above LARGEST, and below 0. */
    private static void assignRefusesAFormulaWithoutAValue() {
        CHECK.refused("assign(0, 0), too large", rows -> rows.assign(0, 0), -5);
        CHECK.refused("assign(7, 4), below 0", () -> below0(), rows -> rows.assign(7, 4), -5);
    }

    /** The formula 4 is D-1 with D = 0 here. */
    private static RootRows below0() {
        RootRows rows = Check.filled();
        rows.setCell(3, 0);
        return rows;
    }

    /** Promise 9, the order of its errors: NO_SUCH, then NOT_POSSIBLE. */
    private static void assignNamesTheCellFirst() {
        for (int cell : Check.outside(0, 7)) {
            CHECK.refused("assign(" + cell + ", 0), too large", rows -> rows.assign(cell, 0), -1);
            CHECK.refused("assign(" + cell + ", 4), below 0", () -> below0(), rows -> rows.assign(cell, 4), -1);
            CHECK.refused("assign(" + cell + ", 6)", rows -> rows.assign(cell, 6), -1);
        }
    }

    /** Promise 9, "This is a change": also if the cell has this value. */
    private static void assignIsAChange() {
        RootRows rows = new RootRows();
        Check.make(rows, 0, "A");
        CHECK.due("assign(0, 0)", rows.assign(0, 0), 0);
        CHECK.due("count(2)", rows.count(2), 2);
        Check.make(rows, 0, "8");
        rows.assign(7, 0);
        CHECK.due("undo()", rows.undo(), 3);
        CHECK.due("cell(7)", rows.cell(7), 0);
    }

    // ---- promise 10: settle

    private static RootRows settling(String text) {
        RootRows rows = new RootRows();
        Check.make(rows, 0, text);
        return rows;
    }

    /** Promise 10, "`times`: 1 to 100", and "or it was done so many times". */
    private static void settleIsDone1To100Times() {
        RootRows rows = settling("A+1");
        CHECK.due("settle(0, 0, 1)", rows.settle(0, 0, 1), 1);
        CHECK.due("cell(0)", rows.cell(0), 1);
        CHECK.due("settle(0, 0, 100)", rows.settle(0, 0, 100), 100);
        CHECK.due("cell(0)", rows.cell(0), 101);
        CHECK.due("settle(0, 0, 2)", rows.settle(0, 0, 2), 2);
        CHECK.due("cell(0)", rows.cell(0), 103);
    }

    /** Promise 10, "until nothing becomes different", and "(the time by which nothing becomes different counts, too". */
    private static void settleCountsTheTimeByWhichNothingBecomesDifferent() {
        RootRows rows = settling("q(A)");
        CHECK.due("nothing different the first time", rows.settle(0, 0, 100), 1);
        CHECK.due("the same with one time", rows.settle(0, 0, 1), 1);
        rows.setCell(0, 16);
        CHECK.due("4 2 1 1", rows.settle(0, 0, 100), 4);
        CHECK.due("cell(0)", rows.cell(0), 1);
        rows.setCell(0, 16);
        CHECK.due("4 2 1 1, asked for so many", rows.settle(0, 0, 4), 4);
        rows.setCell(0, 16);
        CHECK.due("4 2 1, and no time left", rows.settle(0, 0, 3), 3);
        CHECK.due("cell(0)", rows.cell(0), 1);
        Check.make(rows, 1, "9");
        CHECK.due("a cell that is not named: once, and once more", rows.settle(7, 1, 100), 2);
        CHECK.due("cell(7)", rows.cell(7), 9);
    }

    /** Promise 10, "or the formula has no value", and "a time without a value does not)". */
    private static void settleDoesNotCountATimeWithoutAValue() {
        RootRows rows = settling("A-1");
        rows.setCell(0, 3);
        CHECK.due("2 1 0 and below 0", rows.settle(0, 0, 100), 3);
        CHECK.due("cell(0)", rows.cell(0), 0);
        rows.setCell(0, 3);
        CHECK.due("2 1 0 and no time left", rows.settle(0, 0, 3), 3);
        Check.make(rows, 0, "A*10");
        rows.setCell(0, 10_000_000_000L);
        CHECK.due("10 and 100 thousand million, and above LARGEST", rows.settle(0, 0, 100), 2);
        CHECK.due("cell(0)", rows.cell(0), LARGEST);
    }

    /** The same sentence: no value the first time is 0 times, which is no error. */
    private static void settleWithoutAValueTheFirstTimeIs0Times() {
        RootRows rows = settling("0-1");
        rows.setCell(7, 12);
        CHECK.due("settle(7, 0, 1)", rows.settle(7, 0, 1), 0);
        CHECK.due("cell(7)", rows.cell(7), 12);
        CHECK.due("it is a change", rows.count(2), 3);
        CHECK.due("settle(7, 0, 100)", rows.settle(7, 0, 100), 0);
        CHECK.due("undo()", rows.undo(), 3);
    }

    /** Promise 10, "NO_SUCH if there is no such cell". */
    private static void settleRefusesACellThatThereIsNot() {
        for (int cell : Check.outside(0, 7)) {
            CHECK.refused("settle(" + cell + ", 1, 1)", rows -> rows.settle(cell, 1, 1), -1);
        }
    }

    /** Promise 10, "NO_SUCH if there is no such ... formula". */
    private static void settleRefusesAFormulaThatThereIsNot() {
        for (int formula : Check.outside(0, 5)) {
            CHECK.refused("settle(0, " + formula + ", 1)", rows -> rows.settle(0, formula, 1), -1);
        }
        for (int formula : new int[] {2, 3, 5}) {
            CHECK.refused("settle(7, " + formula + ", 100)", rows -> rows.settle(7, formula, 100), -1);
        }
        CHECK.refused("settle(0, 0, 1) of a new object", RootRows::new, rows -> rows.settle(0, 0, 1), -1);
    }

    /** Promise 10, "BAD_VALUE if times is out of range". */
    private static void settleRefusesTimesOutOfRange() {
        for (int times : Check.outside(1, 100)) {
            CHECK.refused("settle(0, 1, " + times + ")", rows -> rows.settle(0, 1, times), -2);
            CHECK.refused("settle(0, 0, " + times + ") without a value", rows -> rows.settle(0, 0, times), -2);
        }
        CHECK.refused("settle(0, 1, -1)", rows -> rows.settle(0, 1, -1), -2);
    }

    /** Promise 10, the order of its errors: NO_SUCH, then BAD_VALUE. */
    private static void settleNamesTheCellAndTheFormulaFirst() {
        for (int times : Check.outside(1, 100)) {
            for (int none : Check.outside(0, 7)) {
                CHECK.refused("settle(" + none + ", 1, " + times + ")", rows -> rows.settle(none, 1, times), -1);
                CHECK.refused("settle(0, " + none + ", " + times + ")", rows -> rows.settle(0, none, times), -1);
            }
            CHECK.refused("settle(0, 2, " + times + ")", rows -> rows.settle(0, 2, times), -1);
        }
    }

    /** Promise 10, "This is a change": one, however often it was done. */
    private static void settleIsOneChange() {
        RootRows rows = settling("A+1");
        rows.settle(0, 0, 100);
        CHECK.due("count(2)", rows.count(2), 2);
        CHECK.due("undo()", rows.undo(), 1);
        CHECK.due("cell(0)", rows.cell(0), 0);
    }
}
