/**
 * The boundary cases of the document's terms: conventions, settings, roots, cells and formulas. A method holds one
 * sentence, which its comment quotes.
 */
public final class TermsEdgesTest {
    private static final Check CHECK = new Check("TermsEdgesTest");
    private static final long LARGEST = 1_000_000_000_000L;

    /** Roots up to those of LARGEST: around powers of 2, and the last ones. */
    private static final long[] ROOTS = {1, 2, 3, 4, 7, 8, 15, 16, 99, 127, 128, 1023, 1024, 4095, 4096, 8191, 8192, 9999,
        10_000, 65_535, 65_536, 262_144, 524_287, 524_288, 524_289, 999_999, 1_000_000};

    public static void main(String[] args) {
        CHECK.runAll(TermsEdgesTest.class);
        CHECK.end();
    }

    private static RootRows byRound(int round) {
        RootRows rows = new RootRows();
        rows.set(RootRows.ROUND, round);
        return rows;
    }

    // ---- conventions

    /**
     * Conventions, "A method that fails returns one of the error codes NO_SUCH (-1), BAD_VALUE (-2), BAD_TEXT (-3),
     * TOO_MANY (-4) and NOT_POSSIBLE (-5)".
     */
    private static void errorCodes() {
        RootRows rows = new RootRows();
        CHECK.due("cell(8)", rows.cell(8), -1);
        CHECK.due("set(2, 0)", rows.set(2, 0), -2);
        CHECK.due("load(0) of an empty pad", rows.load(0), -3);
        Check.type(rows, "1".repeat(60));
        CHECK.due("put behind 60", rows.put('1'), -4);
        CHECK.due("undo() of nothing", rows.undo(), -5);
    }

    /** Terms, "`NO_SUCH = -1, BAD_VALUE = -2, BAD_TEXT = -3, TOO_MANY = -4, NOT_POSSIBLE = -5, NONE = -6`". */
    private static void constantsOfTheCodes() {
        CHECK.due("NO_SUCH", RootRows.NO_SUCH, -1);
        CHECK.due("BAD_VALUE", RootRows.BAD_VALUE, -2);
        CHECK.due("BAD_TEXT", RootRows.BAD_TEXT, -3);
        CHECK.due("TOO_MANY", RootRows.TOO_MANY, -4);
        CHECK.due("NOT_POSSIBLE", RootRows.NOT_POSSIBLE, -5);
        CHECK.due("NONE", RootRows.NONE, -6);
    }

    /** Terms, "`ROUND = 0, DIGITS = 1`: Settings." */
    private static void constantsOfTheSettings() {
        RootRows rows = new RootRows();
        CHECK.due("ROUND", RootRows.ROUND, 0);
        CHECK.due("DIGITS", RootRows.DIGITS, 1);
        CHECK.due("set(ROUND, 2)", rows.set(RootRows.ROUND, 2), 0);
        CHECK.due("set(DIGITS, 6)", rows.set(RootRows.DIGITS, 6), 3);
        CHECK.due("count(3)", rows.count(3), 2);
        CHECK.due("count(4)", rows.count(4), 6);
    }

    /**
     * Conventions, "it names its errors in the order in which they are checked, and the first one that applies is
     * returned." Every method that has two errors, with both of them at once; the promises' tests have more of each.
     */
    private static void theFirstErrorThatAppliesIsReturned() {
        RootRows rows = Check.filled();
        CHECK.due("setCell(8, -1)", rows.setCell(8, -1), -1);
        CHECK.due("assign(8, 0), too large", rows.assign(8, 0), -1);
        CHECK.due("settle(8, 1, 0)", rows.settle(8, 1, 0), -1);
        CHECK.due("settle(0, 2, 101)", rows.settle(0, 2, 101), -1);
        CHECK.due("ofFormula(2, 5)", rows.ofFormula(2, 5), -1);
        CHECK.due("stepValue(0, 5) behind the step that ends it", rows.stepValue(0, 5), -1);
        CHECK.due("restore(2) with slot 0 empty", rows.restore(2), -2);
        Check.type(rows, "+".repeat(57));
        CHECK.due("put(32) behind 60", rows.put(32), -2);
        CHECK.due("load(6) with a fault", rows.load(6), -1);
    }

    /** Conventions, "A call that returns an error changes nothing." Every error of every method, all on one object. */
    private static void aCallThatReturnsAnErrorChangesNothing() {
        Check.Call[] errors = {x -> x.set(2, 0), x -> x.set(0, 3), x -> x.set(1, 7), x -> x.setCell(8, 0),
            x -> x.setCell(0, -1), x -> x.cell(8), x -> x.put(0), x -> x.put(32), x -> x.put(0x410041L), x -> x.load(6),
            x -> x.assign(8, 1), x -> x.assign(0, 2), x -> x.assign(1, 0), x -> x.settle(8, 1, 1), x -> x.settle(0, 2, 1),
            x -> x.settle(0, 1, 0), x -> x.settle(0, 1, 101), x -> x.value(2), x -> x.value(0), x -> x.ofFormula(2, 0),
            x -> x.ofFormula(1, 5), x -> x.stepValue(2, 0), x -> x.stepValue(1, 5), x -> x.stepValue(0, 4),
            x -> x.count(6), x -> x.root(-1, 2), x -> x.root(9, 4), x -> x.remainder(-1, 2), x -> x.remainder(9, 1),
            x -> x.bit(-1, 2, 0, 0), x -> x.bit(9, 1, 0, 0), x -> x.bit(9, 2, -2, 0), x -> x.bit(9, 2, 0, 4),
            x -> x.digits(-1), x -> x.compare(-1, 0, 0, 0), x -> x.period(-1), x -> x.term(-1, 0), x -> x.term(7, 501),
            x -> x.convergent(-1, 0, 0), x -> x.convergent(7, 501, 0), x -> x.convergent(7, 0, 2),
            x -> x.twoSquares(-1, 0), x -> x.twoSquares(5, 3), x -> x.powers(-1, 5), x -> x.powers(5, 4), x -> x.rootSum(-1),
            x -> x.save(2), x -> x.restore(2), x -> x.restore(0)};
        RootRows rows = Check.filled();
        for (int i = 0; i < errors.length; i++) {
            long answer = errors[i].on(rows);
            CHECK.isTrue("answer " + i + " is an error, " + answer, answer <= -1 && answer >= -5);
        }
        CHECK.isTrue("nothing is different", Seen.all(rows).equals(Seen.all(Check.filled())));
    }

    /** Conventions, "NONE (-6) is not an error; it is returned only if no error applies." */
    private static void noneOnlyIfNoErrorApplies() {
        RootRows rows = new RootRows();
        CHECK.due("bit(0, 2, 0, 3)", rows.bit(0, 2, 0, 3), -6);
        CHECK.due("bit(-1, 2, 0, 3)", rows.bit(-1, 2, 0, 3), -2);
        CHECK.due("bit(0, 4, 0, 3)", rows.bit(0, 4, 0, 3), -2);
        CHECK.due("bit(0, 2, 0, 4)", rows.bit(0, 2, 0, 4), -2);
        CHECK.due("term(4, 500)", rows.term(4, 500), -6);
        CHECK.due("term(4, 501)", rows.term(4, 501), -2);
        CHECK.due("convergent(4, 500, 1)", rows.convergent(4, 500, 1), -6);
        CHECK.due("convergent(4, 501, 1)", rows.convergent(4, 501, 1), -2);
        CHECK.due("convergent(4, 500, 2)", rows.convergent(4, 500, 2), -2);
        CHECK.due("twoSquares(3, 2)", rows.twoSquares(3, 2), -6);
        CHECK.due("twoSquares(3, 3)", rows.twoSquares(3, 3), -2);
        CHECK.due("ofFormula(0, 3) without a formula", rows.ofFormula(0, 3), -1);
        Check.make(rows, 0, "1");
        CHECK.due("ofFormula(0, 3)", rows.ofFormula(0, 3), -6);
    }

    /** Conventions, "Everything is numbered from 0." */
    private static void everythingIsNumberedFrom0() {
        RootRows rows = new RootRows();
        rows.setCell(0, 7);
        rows.setCell(7, 70);
        CHECK.due("load(0)", Check.make(rows, 0, "A+H*2"), 5);
        CHECK.due("the cell 0 is A, 7 is H", rows.value(0), 147);
        CHECK.due("stepValue(0, 0) is the first one", rows.stepValue(0, 0), 7);
        CHECK.due("stepValue(0, 4) is the last one", rows.stepValue(0, 4), 147);
        CHECK.due("bit(9, 2, 0, 0) is the first one", rows.bit(9, 2, 0, 0), 2);
        CHECK.due("term(7, 0) is the whole part", rows.term(7, 0), 2);
        CHECK.due("set(0, 2) is ROUND", rows.set(0, 2), 0);
        CHECK.due("save(0) is a slot", rows.save(0), 1);
    }

    /** Conventions, "LARGEST is 1000000000000 (10 to the power of 12)." */
    private static void largest() {
        RootRows rows = new RootRows();
        CHECK.due("LARGEST", RootRows.LARGEST, 1_000_000_000_000L);
        CHECK.due("setCell(0, LARGEST)", rows.setCell(0, 1_000_000_000_000L), 0);
        CHECK.due("setCell(0, LARGEST + 1)", rows.setCell(0, 1_000_000_000_001L), -2);
        CHECK.due("cell(0)", rows.cell(0), 1_000_000_000_000L);
    }

    // ---- settings

    /** Settings, "(In parentheses: range; first value.) ROUND (0 to 2; 0)." */
    private static void roundIs0To2And0AtFirst() {
        RootRows rows = new RootRows();
        CHECK.due("count(3) at first", rows.count(3), 0);
        CHECK.due("root(8, 2) at first", rows.root(8, 2), 2);
        CHECK.due("set(0, 2)", rows.set(0, 2), 0);
        CHECK.due("set(0, 0)", rows.set(0, 0), 2);
        for (int value : Check.outside(0, 2)) {
            CHECK.due("set(0, " + value + ")", rows.set(0, value), -2);
        }
        CHECK.due("count(3) then", rows.count(3), 0);
    }

    /** Settings, "DIGITS (0 to 6; 3)". */
    private static void digitsIs0To6And3AtFirst() {
        RootRows rows = new RootRows();
        CHECK.due("count(4) at first", rows.count(4), 3);
        CHECK.due("digits(1) at first", rows.digits(1), 1000);
        CHECK.due("set(1, 6)", rows.set(1, 6), 3);
        CHECK.due("set(1, 0)", rows.set(1, 0), 6);
        for (int value : Check.outside(0, 6)) {
            CHECK.due("set(1, " + value + ")", rows.set(1, value), -2);
        }
        CHECK.due("count(4) then", rows.count(4), 0);
    }

    // ---- roots

    /** Roots, "The root of the kind 2 of n, rounded down, is the greatest r for which r * r is at most n". */
    private static void squareRootAtAndBelowEachSquare() {
        RootRows rows = new RootRows();
        CHECK.due("root(0, 2)", rows.root(0, 2), 0);
        for (long r : ROOTS) {
            CHECK.due("root(" + r * r + ", 2)", rows.root(r * r, 2), r);
            CHECK.due("root(" + (r * r - 1) + ", 2)", rows.root(r * r - 1, 2), r - 1);
        }
    }

    /** Roots, "of the kind 3 the greatest r for which r * r * r is at most n". */
    private static void cubeRootAtAndBelowEachThirdPower() {
        RootRows rows = new RootRows();
        CHECK.due("root(0, 3)", rows.root(0, 3), 0);
        for (long r : ROOTS) {
            if (r <= 10_000) {
                CHECK.due("root(" + r * r * r + ", 3)", rows.root(r * r * r, 3), r);
                CHECK.due("root(" + (r * r * r - 1) + ", 3)", rows.root(r * r * r - 1, 3), r - 1);
            }
        }
    }

    /** Roots, "The remainder is n less this power of r": 0 at a power, the greatest one just below the next. */
    private static void remainderIs0AtAPowerAndGreatestBelowTheNext() {
        RootRows rows = new RootRows();
        CHECK.due("remainder(0, 2)", rows.remainder(0, 2), 0);
        CHECK.due("remainder(0, 3)", rows.remainder(0, 3), 0);
        for (long r : ROOTS) {
            CHECK.due("remainder(" + r * r + ", 2)", rows.remainder(r * r, 2), 0);
            CHECK.due("remainder(" + (r * r - 1) + ", 2)", rows.remainder(r * r - 1, 2), 2 * r - 2);
            if (r <= 10_000) {
                CHECK.due("remainder(" + r * r * r + ", 3)", rows.remainder(r * r * r, 3), 0);
                CHECK.due("remainder(" + (r * r * r - 1) + ", 3)", rows.remainder(r * r * r - 1, 3), 3 * r * r - 3 * r);
            }
        }
    }

    /** Roots, "By ROUND 0 the root is this r." */
    private static void byRound0ItIsThisR() {
        RootRows rows = byRound(0);
        CHECK.due("root(15, 2)", rows.root(15, 2), 3);
        CHECK.due("root(26, 3)", rows.root(26, 3), 2);
        CHECK.due("root(LARGEST - 1, 2)", rows.root(LARGEST - 1, 2), 999_999);
        CHECK.due("root(LARGEST - 1, 3)", rows.root(LARGEST - 1, 3), 9999);
        CHECK.due("root(0, 2)", rows.root(0, 2), 0);
        CHECK.due("root(0, 3)", rows.root(0, 3), 0);
    }

    /** Roots, "By ROUND 2 it is r + 1 if the remainder is not 0, otherwise r." */
    private static void byRound2ARemainderOf1Makes1More() {
        RootRows rows = byRound(2);
        CHECK.due("root(0, 2)", rows.root(0, 2), 0);
        CHECK.due("root(0, 3)", rows.root(0, 3), 0);
        for (long r : ROOTS) {
            CHECK.due("root(" + r * r + ", 2)", rows.root(r * r, 2), r);
            CHECK.due("root(" + (r * r - 1) + ", 2)", rows.root(r * r - 1, 2), r == 1 ? 0 : r);
            if (r < 1_000_000) {
                CHECK.due("root(" + (r * r + 1) + ", 2)", rows.root(r * r + 1, 2), r + 1);
            }
            if (r <= 10_000) {
                CHECK.due("root(" + r * r * r + ", 3)", rows.root(r * r * r, 3), r);
                CHECK.due("root(" + (r * r * r - 1) + ", 3)", rows.root(r * r * r - 1, 3), r == 1 ? 0 : r);
            }
            if (r < 10_000) {
                CHECK.due("root(" + (r * r * r + 1) + ", 3)", rows.root(r * r * r + 1, 3), r + 1);
            }
        }
    }

    /** Roots, "By ROUND 1 it is r + 1 if the root itself is nearer to r + 1 than to r, otherwise r". */
    private static void byRound1AtThePowers() {
        RootRows rows = byRound(1);
        CHECK.due("root(0, 2)", rows.root(0, 2), 0);
        CHECK.due("root(0, 3)", rows.root(0, 3), 0);
        CHECK.due("root(LARGEST, 2)", rows.root(LARGEST, 2), 1_000_000);
        CHECK.due("root(LARGEST, 3)", rows.root(LARGEST, 3), 10_000);
        CHECK.due("root(LARGEST - 1, 2)", rows.root(LARGEST - 1, 2), 1_000_000);
        CHECK.due("root(LARGEST - 1, 3)", rows.root(LARGEST - 1, 3), 10_000);
    }

    /** Roots, ROUND 1, "for the kind 2 if the remainder is above r": r itself is not above it. */
    private static void byRound1ASquareRootNeedsARemainderAboveR() {
        RootRows rows = byRound(1);
        for (long r : ROOTS) {
            if (r < 1_000_000) {
                CHECK.due("root(" + (r * r + r) + ", 2)", rows.root(r * r + r, 2), r);
                CHECK.due("root(" + (r * r + r + 1) + ", 2)", rows.root(r * r + r + 1, 2), r + 1);
            }
        }
    }

    /** Roots, ROUND 1, "for the kind 3 if 8 * n is above the third power of 2 * r + 1". */
    private static void byRound1ACubeRootNeeds8TimesNAboveTheThirdPower() {
        RootRows rows = byRound(1);
        for (long r : ROOTS) {
            if (r < 10_000) {
                long last = (2 * r + 1) * (2 * r + 1) * (2 * r + 1) / 8;
                CHECK.due("root(" + last + ", 3)", rows.root(last, 3), r);
                CHECK.due("root(" + (last + 1) + ", 3)", rows.root(last + 1, 3), r + 1);
            }
        }
    }

    /** Roots, "the first bit is the greatest power of 2 whose power (the second or third one, by the kind) is at most n". */
    private static void firstBitAtAndBelowThePowersOf2() {
        RootRows rows = new RootRows();
        CHECK.due("bit(1, 2, 0, 0)", rows.bit(1, 2, 0, 0), 1);
        CHECK.due("bit(1, 3, 0, 0)", rows.bit(1, 3, 0, 0), 1);
        for (long bit = 2; bit <= 524_288; bit *= 2) {
            CHECK.due("bit(" + bit * bit + ", 2, 0, 0)", rows.bit(bit * bit, 2, 0, 0), bit);
            CHECK.due("bit(" + (bit * bit - 1) + ", 2, 0, 0)", rows.bit(bit * bit - 1, 2, 0, 0), bit / 2);
            if (bit <= 8192) {
                CHECK.due("bit(" + bit * bit * bit + ", 3, 0, 0)", rows.bit(bit * bit * bit, 3, 0, 0), bit);
                CHECK.due("bit(" + (bit * bit * bit - 1) + ", 3, 0, 0)", rows.bit(bit * bit * bit - 1, 3, 0, 0), bit / 2);
            }
        }
        CHECK.due("bit(LARGEST, 2, 0, 0)", rows.bit(LARGEST, 2, 0, 0), 524_288);
        CHECK.due("bit(LARGEST, 3, 0, 0)", rows.bit(LARGEST, 3, 0, 0), 8192);
    }

    /** Roots, "the next ones are its half, and so on, down to 1." */
    private static void theNextBitsAreItsHalfDownTo1() {
        RootRows rows = new RootRows();
        for (int kind = 2; kind <= 3; kind++) {
            long bit = kind == 2 ? 524_288 : 8192;
            for (int step = 0; step < (kind == 2 ? 20 : 14); step++) {
                CHECK.due("bit(LARGEST, " + kind + ", " + step + ", 0)", rows.bit(LARGEST, kind, step, 0), bit);
                bit /= 2;
            }
            CHECK.due("there is none behind 1", rows.bit(LARGEST, kind, kind == 2 ? 20 : 14, 0), -6);
        }
    }

    /** Roots, "A bit is taken if the root so far and the bit together have a power that is at most n." */
    private static void aBitIsTakenIfItsPowerIsJustN() {
        RootRows rows = new RootRows();
        CHECK.due("bit(9, 2, 1, 1)", rows.bit(9, 2, 1, 1), 1);
        CHECK.due("bit(8, 2, 1, 1)", rows.bit(8, 2, 1, 1), 0);
        CHECK.due("bit(27, 3, 1, 1)", rows.bit(27, 3, 1, 1), 1);
        CHECK.due("bit(26, 3, 1, 1)", rows.bit(26, 3, 1, 1), 0);
        CHECK.due("bit(LARGEST, 2, 13, 1), which makes 1000000", rows.bit(LARGEST, 2, 13, 1), 1);
        CHECK.due("bit(LARGEST - 1, 2, 13, 1)", rows.bit(LARGEST - 1, 2, 13, 1), 0);
        CHECK.due("bit(LARGEST, 3, 9, 1), which makes 10000", rows.bit(LARGEST, 3, 9, 1), 1);
        CHECK.due("bit(LARGEST - 1, 3, 9, 1)", rows.bit(LARGEST - 1, 3, 9, 1), 0);
        CHECK.due("bit(1, 2, 0, 1)", rows.bit(1, 2, 0, 1), 1);
    }

    /** Roots, "(There are no bits for n = 0.)" */
    private static void thereAreNoBitsFor0() {
        RootRows rows = new RootRows();
        for (int kind = 2; kind <= 3; kind++) {
            for (int what = 0; what <= 3; what++) {
                CHECK.due("bit(0, " + kind + ", -1, " + what + ")", rows.bit(0, kind, -1, what), 0);
                CHECK.due("bit(0, " + kind + ", 0, " + what + ")", rows.bit(0, kind, 0, what), -6);
                CHECK.due("bit(1, " + kind + ", -1, " + what + ")", rows.bit(1, kind, -1, what), 1);
            }
        }
    }

    // ---- cells and formulas

    /** Cells, formulas, "There are 8 cells, A to H, each with a value from 0 to LARGEST (0 at first)." */
    private static void thereAre8CellsFrom0ToLargest() {
        RootRows rows = new RootRows();
        for (int cell = 0; cell < 8; cell++) {
            CHECK.due("cell(" + cell + ") at first", rows.cell(cell), 0);
            CHECK.due("load of its letter", Check.make(rows, 0, "" + (char) ('A' + cell)), 1);
            CHECK.due("setCell(" + cell + ", LARGEST)", rows.setCell(cell, LARGEST), 0);
            CHECK.due("value of its letter", rows.value(0), LARGEST);
            CHECK.due("setCell(" + cell + ", LARGEST + 1)", rows.setCell(cell, LARGEST + 1), -2);
            CHECK.due("setCell(" + cell + ", -1)", rows.setCell(cell, -1), -2);
            CHECK.due("setCell(" + cell + ", 0)", rows.setCell(cell, 0), LARGEST);
            CHECK.due("value of its letter", rows.value(0), 0);
        }
        CHECK.due("cell(8)", rows.cell(8), -1);
        CHECK.due("the letter I is none", Check.faultOf(rows, "I"), 0);
    }

    /** Cells, formulas, "There are 6 formulas, 0 to 5 (none of them is there at first)." */
    private static void thereAre6FormulasNoneAtFirst() {
        RootRows rows = new RootRows();
        for (int formula = 0; formula < 6; formula++) {
            CHECK.due("value(" + formula + ") at first", rows.value(formula), -1);
        }
        for (int formula = 0; formula < 6; formula++) {
            CHECK.due("load(" + formula + ")", Check.make(rows, formula, "9" + formula), 1);
        }
        Check.type(rows, "96");
        CHECK.due("load(6)", rows.load(6), -1);
        for (int formula = 0; formula < 6; formula++) {
            CHECK.due("value(" + formula + ")", rows.value(formula), 90 + formula);
        }
    }

    /** Cells, formulas, "A formula is read from the pad, a text of at most 60 characters". */
    private static void aFormulaHasAtMost60Characters() {
        RootRows rows = new RootRows();
        CHECK.due("load of 60 characters", Check.make(rows, 0, "10" + "+1".repeat(29)), 59);
        CHECK.due("value of 60 characters", rows.value(0), 39);
        Check.type(rows, "10" + "+1".repeat(29));
        CHECK.due("put behind 60", rows.put('0'), -4);
        CHECK.due("load of the 60 that are there", rows.load(1), 59);
        CHECK.due("value of the 60 that are there", rows.value(1), 39);
        CHECK.due("load of 1 character", Check.make(rows, 2, "5"), 1);
    }

    private static void faults(String[] texts, int... due) {
        CHECK.due("texts and faults", texts.length, due.length);
        for (int i = 0; i < Math.min(texts.length, due.length); i++) {
            CHECK.due("fault() of " + texts[i], Check.faultOf(new RootRows(), texts[i]), due[i]);
        }
    }

    /** Cells, formulas, "formula = term { ( "+" | "-" ) term }". */
    private static void formulaIsOneTermOrMore() {
        faults(new String[] {"1", "1+2", "1-2", "1+2-3", "+", "-1", "1+", "1-", "1++2", "1+-2", "1--2", "1,2", "1.2", "1/2"},
            -6, -6, -6, -6, 0, 0, 2, 2, 2, 2, 2, 1, 1, 1);
    }

    /** Cells, formulas, "term = factor { "*" factor }". */
    private static void termIsOneFactorOrMore() {
        faults(new String[] {"1*2", "1*2*3", "*1", "1*", "1**2", "1*+2", "1+*2", "12A", "AB", "A1", "(1)2", "(1)(2)", "1(2)",
            "A(2)", "1q(2)", "(1)A", "(1)k(2)"},
            -6, -6, 0, 2, 2, 2, 2, 2, 1, 1, 3, 3, 1, 1, 1, 3, 3);
    }

    /** Cells, formulas, "factor = number | cell | "(" formula ")" | ( "q" | "k" | "s" ) "(" formula ")"". */
    private static void factorIsOneOfFour() {
        faults(new String[] {"7", "A", "(7)", "q(7)", "k(7)", "s(7)", "((7))", "q((7))", "()", "(", "(7", ")", "7)", "(7))",
            "q", "q(", "q()", "q7", "qA", "qq(7)", "k)", "s+", "(+7)", "(7+)", "q(7", "p(7)", "r(7)", "j(7)", "l(7)", "t(7)",
            "Q(7)", "K(7)", "S(7)", "[7]", "{7}"},
            -6, -6, -6, -6, -6, -6, -6, -6, 1, 1, 2, 0, 1, 3,
            1, 2, 2, 1, 1, 1, 1, 1, 1, 3, 3, 0, 0, 0, 0, 0,
            0, 0, 0, 0, 0);
    }

    /** Cells, formulas, "A number is 0 to 9999, without leading zeros". */
    private static void aNumberIs0To9999WithoutLeadingZeros() {
        RootRows rows = new RootRows();
        CHECK.due("load of 0", Check.make(rows, 0, "0"), 1);
        CHECK.due("value of 0", rows.value(0), 0);
        CHECK.due("load of 9999", Check.make(rows, 0, "9999"), 1);
        CHECK.due("value of 9999", rows.value(0), 9999);
        faults(new String[] {"10", "100", "1000", "10000", "9998", "99999", "00", "01", "09", "000", "1+00", "(01)", "0+0",
            "q(05)", "1+10000", "/", ":"},
            -6, -6, -6, 4, -6, 4, 1, 1, 1, 1, 3, 2, -6,
            3, 6, 0, 0);
    }

    /** Cells, formulas, "a cell is a letter from A to H." */
    private static void aCellIsALetterFromAToH() {
        faults(new String[] {"A", "H", "@", "I", "Z", "a", "h", "1+H", "1+I", "1+@"}, -6, -6, 0, 0, 0, 0, 0, -6, 2, 2);
    }

    /** Cells, formulas, "q is the square root, k the cube root, both by ROUND, s the square." */
    private static void rootsInFormulasGoByRound() {
        long[][] due = {{2, 1, 64, 3, 2}, {2, 2, 64, 3, 2}, {3, 2, 64, 3, 2}};
        for (int round = 0; round <= 2; round++) {
            RootRows rows = byRound(round);
            String[] texts = {"q(6)", "k(4)", "s(8)", "q(9)", "k(8)"};
            for (int i = 0; i < texts.length; i++) {
                Check.make(rows, 0, texts[i]);
                CHECK.due("value of " + texts[i] + " by " + round, rows.value(0), due[round][i]);
            }
        }
    }

    /** Cells, formulas, "The fault is the index of the first character that cannot stand at its place". */
    private static void theFaultIsTheFirstOfThem() {
        faults(new String[] {"!1", "1!", "1!!", "1+!+!", "A)+)", "~", "01+01", "1+2)*)", "(1))(", "x" + "1".repeat(59),
            "1".repeat(60), "1" + "+1".repeat(29) + ")"},
            0, 1, 1, 2, 1, 0, 1, 3, 3, 0, 4, 59);
    }

    /** Cells, formulas, the fault, "(also of a digit by which a number would be above 9999)". */
    private static void theFaultIsTheDigitThatMakesANumberTooLarge() {
        faults(new String[] {"9999", "10000", "99990", "12345678", "1000+10000", "A*99999", "(10000", "10000!"},
            -6, 4, 4, 4, 9, 6, 5, 4);
    }

    /** Cells, formulas, "if there is none and the text ends too early (also if it is empty), it is the length of the text." */
    private static void theFaultOfATextThatEndsTooEarlyIsItsLength() {
        RootRows rows = new RootRows();
        CHECK.due("fault() of an empty pad", rows.fault(), 0);
        faults(new String[] {"1+", "1-", "1*", "(", "(1", "q", "q(", "q(1", "k", "s(s(1)", "(".repeat(60),
            "1" + "+1".repeat(29) + "+", "(".repeat(30) + "1" + ")".repeat(29)},
            2, 2, 2, 1, 2, 1, 2, 3, 1, 6, 60, 60, 60);
    }

    private static void stepsAre(RootRows rows, String text, long... due) {
        CHECK.due("load of " + text, Check.make(rows, 0, text), due.length);
        for (int step = 0; step < due.length; step++) {
            CHECK.due("stepValue(0, " + step + ") of " + text, rows.stepValue(0, step), due[step]);
        }
        CHECK.due("no step behind them", rows.stepValue(0, due.length), -1);
    }

    /**
     * Cells, formulas, "A formula has steps: a number or a cell is one; each +, -, *, q, k, s is one, too, behind the
     * steps of its operands (the left one first)."
     */
    private static void stepsStandBehindTheirOperands() {
        RootRows rows = new RootRows();
        rows.setCell(7, 30);
        stepsAre(rows, "9999", 9999);
        stepsAre(rows, "H", 30);
        stepsAre(rows, "((H))", 30);
        stepsAre(rows, "9-4", 9, 4, 5);
        stepsAre(rows, "9+4*5", 9, 4, 5, 20, 29);
        stepsAre(rows, "9*4+5", 9, 4, 36, 5, 41);
        stepsAre(rows, "9*(4+5)", 9, 4, 5, 9, 81);
        stepsAre(rows, "q(9)+k(8)-s(2)", 9, 3, 8, 2, 5, 2, 4, 1);
        stepsAre(rows, "k(q(4096)-(37+s(0)))", 4096, 64, 37, 0, 0, 37, 27, 3);
        stepsAre(rows, "s(1+2)*3-26", 1, 2, 3, 9, 3, 27, 26, 1);
    }

    /** Cells, formulas, "Terms and factors are taken from left to right." */
    private static void termsAndFactorsAreTakenFromLeftToRight() {
        RootRows rows = new RootRows();
        stepsAre(rows, "10-3-2", 10, 3, 7, 2, 5);
        stepsAre(rows, "10-3+2", 10, 3, 7, 2, 9);
        stepsAre(rows, "2*3*4", 2, 3, 6, 4, 24);
        stepsAre(rows, "10-2*2-1", 10, 2, 2, 4, 6, 1, 5);
        stepsAre(rows, "9-(4-3)-1", 9, 4, 3, 1, 8, 1, 7);
    }

    private static void reckoned(RootRows rows, String text, long value, int reason, int step) {
        Check.make(rows, 0, text);
        CHECK.due("value of " + text, rows.value(0), value);
        CHECK.due("reason of " + text, rows.ofFormula(0, 2), reason);
        CHECK.due("step that ends " + text, rows.ofFormula(0, 3), step);
    }

    /** Cells, formulas, "the step whose value would be above LARGEST (reason 1)": LARGEST itself is not above it. */
    private static void aStepMayBeLargestAndNotAboveIt() {
        RootRows rows = new RootRows();
        rows.setCell(0, LARGEST);
        rows.setCell(1, LARGEST - 1);
        rows.setCell(2, 1_000_000);
        rows.setCell(3, 1_000_001);
        reckoned(rows, "A", LARGEST, 0, -6);
        reckoned(rows, "A+0", LARGEST, 0, -6);
        reckoned(rows, "B+1", LARGEST, 0, -6);
        reckoned(rows, "B+2", -5, 1, 2);
        reckoned(rows, "A+1", -5, 1, 2);
        reckoned(rows, "A+A", -5, 1, 2);
        reckoned(rows, "C*C", LARGEST, 0, -6);
        reckoned(rows, "C*D", -5, 1, 2);
        reckoned(rows, "D*C", -5, 1, 2);
        reckoned(rows, "A*1", LARGEST, 0, -6);
        reckoned(rows, "A*2", -5, 1, 2);
        reckoned(rows, "s(C)", LARGEST, 0, -6);
        reckoned(rows, "s(D)", -5, 1, 1);
        reckoned(rows, "q(A)*q(A)", LARGEST, 0, -6);
    }

    /** The same sentence: products that would be in range again if they were taken in 64 bits alone. */
    private static void productsThatWrapAroundAreTooLarge() {
        RootRows rows = new RootRows();
        rows.setCell(0, LARGEST);
        rows.setCell(1, 1L << 32);
        rows.setCell(2, (1L << 33) + 2);
        rows.setCell(3, (1L << 31) * 3);
        reckoned(rows, "A*A", -5, 1, 2);
        reckoned(rows, "s(A)", -5, 1, 1);
        reckoned(rows, "B*B", -5, 1, 2);
        reckoned(rows, "s(B)", -5, 1, 1);
        reckoned(rows, "C*B", -5, 1, 2);
        reckoned(rows, "B*C", -5, 1, 2);
        reckoned(rows, "C*D", -5, 1, 2);
        reckoned(rows, "D*C", -5, 1, 2);
        reckoned(rows, "D*(B*5)", -5, 1, 4);
        reckoned(rows, "s(C)", -5, 1, 1);
    }

    /** Cells, formulas, "or below 0 (reason 2)": 0 itself is not below it. */
    private static void aStepMayBe0AndNotBelowIt() {
        RootRows rows = new RootRows();
        rows.setCell(0, LARGEST);
        reckoned(rows, "0", 0, 0, -6);
        reckoned(rows, "B", 0, 0, -6);
        reckoned(rows, "5-5", 0, 0, -6);
        reckoned(rows, "5-6", -5, 2, 2);
        reckoned(rows, "A-A", 0, 0, -6);
        reckoned(rows, "A-A-1", -5, 2, 4);
        reckoned(rows, "0-A", -5, 2, 2);
        reckoned(rows, "0*A", 0, 0, -6);
        reckoned(rows, "A*0", 0, 0, -6);
        reckoned(rows, "q(0)+k(0)+s(0)", 0, 0, -6);
        reckoned(rows, "0-B", 0, 0, -6);
    }

    /** Cells, formulas, "When a formula is reckoned, the step ... ends it; there is no value then." */
    private static void theFirstSuchStepEndsIt() {
        RootRows rows = new RootRows();
        rows.setCell(0, LARGEST);
        reckoned(rows, "1-2+3", -5, 2, 2);
        reckoned(rows, "A+1-1", -5, 1, 2);
        reckoned(rows, "(1-2)+(A+1)", -5, 2, 2);
        reckoned(rows, "(A+1)+(1-2)", -5, 1, 2);
        reckoned(rows, "0*(1-2)", -5, 2, 3);
        reckoned(rows, "q(A*2)", -5, 1, 2);
        reckoned(rows, "1+2+3+4+5-16", -5, 2, 10);
    }

    /** Cells, formulas, "(A formula that names a cell names its value as it is when the formula is reckoned.)" */
    private static void aCellIsNamedAsItIsWhenTheFormulaIsReckoned() {
        RootRows rows = new RootRows();
        Check.make(rows, 0, "A+1");
        CHECK.due("value(0) with A = 0", rows.value(0), 1);
        rows.setCell(0, LARGEST - 1);
        CHECK.due("value(0) with A = LARGEST - 1", rows.value(0), LARGEST);
        rows.setCell(0, LARGEST);
        CHECK.due("value(0) with A = LARGEST", rows.value(0), -5);
        rows.undo();
        CHECK.due("value(0) with A = LARGEST - 1 again", rows.value(0), LARGEST);
    }
}
