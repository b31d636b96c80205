/** Promises 5 to 8: the pad, its fault, and formulas that are read from it. */
public final class PadTest {
    private static final Check CHECK = new Check("PadTest");

    public static void main(String[] args) {
        put();
        putRefuses();
        padIsFull();
        wipe();
        textsWithoutFault();
        textsWithFault();
        everyCharacterAtEachPlace();
        longTexts();
        load();
        loadRefuses();
        CHECK.end();
    }

    private static void put() {
        RootRows rows = new RootRows();
        CHECK.due("P5 put(A)", rows.put('A'), 1);
        CHECK.due("P5 put(+1)", rows.put('+' << 8 | '1'), 3);
        CHECK.due("P5 put of 8", rows.put(Check.packed("*q(B+C)-")), 11);
        CHECK.due("P5 put(7)", rows.put('7'), 12);
        CHECK.due("P5 their order makes a formula", rows.fault(), -6);
        CHECK.due("P5 count(1)", rows.count(1), 12);
        CHECK.due("P5 put is no change", rows.count(2), 0);
        rows.wipe();
        CHECK.due("P5 the lowest code", rows.put(33), 1);
        CHECK.due("P5 the highest code", rows.put(126), 2);
        CHECK.due("P5 both in 8", rows.put(0x217e217e217e217eL), 10);
    }

    private static void putRefuses() {
        RootRows rows = new RootRows();
        rows.put('A');
        long[] wrong = {0, 32, 127, 128, 255, 1, 10, -1, Long.MIN_VALUE, Long.MAX_VALUE, 0x4100, 0x410041L,
            0x4100000000000041L, 0x0100000000000041L, 0x8000000000000041L, 0x100000000000041L, 0x10041L, 0x4120L,
            0x2041L, 0x417fL, 0x7f41L, 0x80L << 56 | 0x41414141414141L, 0xff41L, 0x4141414141414120L,
            0x2041414141414141L, 0x7f41414141414141L, 0x4141410041414141L, 0x4100000000000000L};
        for (long number : wrong) {
            CHECK.due("P5 put(0x" + Long.toHexString(number) + ")", rows.put(number), -2);
        }
        CHECK.due("P5 count(1) after errors", rows.count(1), 1);
        CHECK.due("P5 fault() after errors", rows.fault(), -6);
    }

    private static void padIsFull() {
        RootRows rows = new RootRows();
        Check.type(rows, "1+1+1+1+1+1+1+1+1+1+1+1+1+1+1+1+1+1+1+1+1+1+1+1+1+1+1+1+");
        CHECK.due("P5 count(1)", rows.count(1), 56);
        CHECK.due("P5 put of 5 more", rows.put(Check.packed("23456")), -4);
        CHECK.due("P5 put of 8 more", rows.put(Check.packed("23456789")), -4);
        CHECK.due("P5 nothing of it was put", rows.count(1), 56);
        CHECK.due("P5 put of 4 more", rows.put(Check.packed("1234")), 60);
        CHECK.due("P5 fault() of 60 characters", rows.fault(), -6);
        CHECK.due("P5 put of one more", rows.put('1'), -4);
        CHECK.due("P5 a bad value is named ahead of too many", rows.put(32), -2);
        CHECK.due("P5 no character is named ahead of too many", rows.put(0), -2);
        CHECK.due("P8 load(0) of 60 characters", rows.load(0), 57);
        CHECK.due("P11 value(0)", rows.value(0), 1262);
        Check.type(rows, "1+1+1+1+1+1+1+1+1+1+1+1+1+1+1+1+1+1+1+1+1+1+1+1+1+1+1+1+1+1");
        CHECK.due("P5 59 characters and one more", rows.put('+'), 60);
    }

    private static void wipe() {
        RootRows rows = new RootRows();
        CHECK.due("P6 wipe() of an empty pad", rows.wipe(), 0);
        Check.type(rows, "((((((((((");
        CHECK.due("P6 wipe()", rows.wipe(), 10);
        CHECK.due("P6 count(1)", rows.count(1), 0);
        CHECK.due("P6 wipe() again", rows.wipe(), 0);
        CHECK.due("P6 wipe is no change", rows.count(2), 0);
        CHECK.due("P6 put after it", rows.put('7'), 1);
        CHECK.due("P6 fault() after it", rows.fault(), -6);
    }

    private static void textsWithoutFault() {
        RootRows rows = new RootRows();
        String[] texts = {"0", "9", "10", "9999", "1000", "A", "H", "(A)", "((0))", "q(0)", "k(0)", "s(0)",
            "1+2", "1-2", "1*2", "A+B*C-D", "q(k(s(A)))", "(1+2)*(3-4)", "q((1))", "0+0", "0*0-0", "9999+9999",
            "A*B*C*D*E*F*G*H", "(A+(B-(C*(D))))", "s(1)*q(2)+k(3)"};
        for (String text : texts) {
            CHECK.due("P7 fault() of " + text, Check.faultOf(rows, text), -6);
        }
    }

    private static void textsWithFault() {
        RootRows rows = new RootRows();
        String[] texts = {"", "05", "00", "01", "10000", "99990", "12345", "A+", "A-", "A*", "q", "k", "s", "q(", "q(3",
            "(", "((", "(A", ")", "+1", "-1", "*1", "A)", "(A))", "AB", "A1", "1A", "1(", "A(", "(1)(2)", "(1)2", "(1)A",
            "qA", "q1", "qq(1)", "q)", "()", "q()", "A++B", "A+-B", "A+)", "(A+)", "I", "@", "a", "Q(1)", "x", "1.5", "1/2",
            "A^2", "1+05", "1+10000", "(05)", "q(00)", "!", "~", "(1+2", "q(1)q(2)", "1+2)", "9999*9999*99999", "A+(B",
            "s(1", "k(k(1)", "0+", "12+3*", "(1)+(2)+", "1q(2)", "Aq"};
        int[] due = {0, 1, 1, 1, 4, 4, 4, 2, 2, 2, 1, 1, 1, 2, 3,
            1, 2, 2, 0, 0, 0, 0, 1, 3, 1, 1, 1, 1, 1, 3, 3, 3,
            1, 1, 1, 1, 1, 2, 2, 2, 2, 3, 0, 0, 0, 0, 0, 1, 1,
            1, 3, 6, 2, 3, 0, 0, 4, 4, 3, 14, 4,
            3, 6, 2, 5, 8, 1, 1};
        CHECK.due("texts of this test", texts.length, due.length);
        for (int i = 0; i < texts.length; i++) {
            CHECK.due("P7 fault() of " + texts[i], Check.faultOf(rows, texts[i]), due[i]);
            CHECK.due("P8 load(0) of " + texts[i], rows.load(0), -3);
            CHECK.due("P7 the pad stays", rows.count(1), texts[i].length());
        }
        CHECK.due("P8 no formula came of it", rows.count(0), 0);
        CHECK.due("P8 no change came of it", rows.count(2), 0);
    }

    private static void everyCharacterAtEachPlace() {
        String[] beginnings = {"", "A", "1", "0", "9999", "q", "q(", "(", "(A", "(0", "A+", "A*", "(A)", "k(A)-"};
        for (String beginning : beginnings) {
            RootRows rows = new RootRows();
            for (char c = 33; c <= 126; c++) {
                String text = beginning + c;
                CHECK.due("P7 fault() of " + text, Check.faultOf(rows, text), Model.faultOf(text));
            }
        }
    }

    private static void longTexts() {
        RootRows rows = new RootRows();
        CHECK.due("P7 60 brackets", Check.faultOf(rows, "(".repeat(60)), 60);
        CHECK.due("P7 29 pairs", Check.faultOf(rows, "(".repeat(29) + "12" + ")".repeat(29)), -6);
        CHECK.due("P8 29 pairs have a step", rows.load(0), 1);
        CHECK.due("P7 one too many behind", Check.faultOf(rows, "(".repeat(29) + "1" + ")".repeat(30)), 59);
        CHECK.due("P7 one too few", Check.faultOf(rows, "(".repeat(30) + "1" + ")".repeat(29)), 60);
        CHECK.due("P7 30 functions", Check.faultOf(rows, "q(".repeat(30)), 60);
        CHECK.due("P7 19 functions", Check.faultOf(rows, "s(".repeat(19) + "111" + ")".repeat(19)), -6);
        CHECK.due("P8 19 functions", rows.load(1), 20);
        CHECK.due("P8 brackets and +", Check.make(rows, 2, "1+(".repeat(14) + "2" + ")".repeat(14)), 29);
        CHECK.due("P11 brackets and +", rows.value(2), 16);
        CHECK.due("P7 60 digits", Check.faultOf(rows, "1".repeat(60)), 4);
    }

    private static void load() {
        RootRows rows = new RootRows();
        CHECK.due("P8 load(3)", Check.make(rows, 3, "A+2*q(9)"), 6);
        CHECK.due("P8 the pad is empty", rows.count(1), 0);
        CHECK.due("P8 fault() of the empty pad", rows.fault(), 0);
        CHECK.due("P8 load is a change", rows.count(2), 1);
        CHECK.due("P8 count(0)", rows.count(0), 8);
        CHECK.due("P8 value(3)", rows.value(3), 6);
        CHECK.due("P8 load(3) in its place", Check.make(rows, 3, "7"), 1);
        CHECK.due("P8 value(3) then", rows.value(3), 7);
        CHECK.due("P8 load(3) again, of an empty pad", rows.load(3), -3);
        CHECK.due("P8 value(3) still", rows.value(3), 7);
        for (int i = 0; i < 6; i++) {
            CHECK.due("P8 load(" + i + ")", Check.make(rows, i, "10" + i), 1);
        }
        for (int i = 0; i < 6; i++) {
            CHECK.due("P8 value(" + i + ")", rows.value(i), 100 + i);
        }
        CHECK.due("P8 count(0)", rows.count(0), 63);
    }

    private static void loadRefuses() {
        RootRows rows = new RootRows();
        Check.type(rows, "1+1");
        for (int formula : new int[] {-1, 6, 7, Integer.MAX_VALUE, Integer.MIN_VALUE}) {
            CHECK.due("P8 load(" + formula + ")", rows.load(formula), -1);
        }
        CHECK.due("P8 the pad stays", rows.count(1), 3);
        rows.put('+');
        CHECK.due("P8 no such formula is named ahead of the text", rows.load(6), -1);
        CHECK.due("P8 load(0)", rows.load(0), -3);
        CHECK.due("P8 the pad stays", rows.wipe(), 4);
        CHECK.due("P8 load(0) of an empty pad", rows.load(0), -3);
        CHECK.due("P8 errors are no changes", rows.count(2), 0);
    }
}
