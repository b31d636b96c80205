/**
 * Roots of whole numbers by bits, formulas of cells, continued fractions and sums of squares,
 * with undo and saved states. The answers are those that the document's promises name.
 */
public final class RootRows {
    public static final int NO_SUCH = -1, BAD_VALUE = -2, BAD_TEXT = -3, TOO_MANY = -4, NOT_POSSIBLE = -5, NONE = -6;
    public static final int ROUND = 0, DIGITS = 1;
    public static final long LARGEST = 1000000000000L;

    private static final int SETTINGS = 2, CELLS = 8, FORMULAS = 6, SLOTS = 2, HISTORY = 6;
    private static final int PAD_SIZE = 60, CHARACTERS = 8, LOWEST_CODE = 33, HIGHEST_CODE = 126;
    private static final int MOST_ROUND = 2, MOST_DIGITS = 6, MOST_TIMES = 100;
    private static final int SQUARE = 2, CUBE = 3;
    private static final int TOO_LARGE = 1, BELOW_ZERO = 2;
    private static final int MILLION = 1000000, MOST_COMPARED = 10000, MOST_SUMMED = 1000000000;
    private static final int MOST_FRACTION = 100000, MOST_TERM = 500, LONGEST_PERIOD = 1000000;

    /** The greatest bit that a root can have: its square is above every number whose root is asked. */
    private static final long TOP_BIT = 1L << 30;

    /** A step of a formula is a number up to 9999, or SIGN and the character of a cell or an operation. */
    private static final int GREATEST_NUMBER = 9999, SIGN = 10000;

    private final State now = new State();
    private final State[] history = new State[HISTORY];
    private final State[] slots = new State[SLOTS];
    private final char[] pad = new char[PAD_SIZE];
    private final Reader reader = new Reader();
    private final Reckoner reckoner = new Reckoner();
    private final Fraction fraction = new Fraction();
    private int padLength;
    private int oldest;
    private int changes;

    public RootRows() {
        for (int i = 0; i < history.length; i++) {
            history[i] = new State();
        }
    }

    // ---- settings, cells, formulas

    public int set(int setting, int value) {
        if (!within(setting, 0, SETTINGS - 1) || !within(value, 0, setting == ROUND ? MOST_ROUND : MOST_DIGITS)) {
            return BAD_VALUE;
        }
        keepState();
        int before = now.setting(setting);
        now.changeSetting(setting, value);
        return before;
    }

    public long setCell(int cell, long value) {
        if (!within(cell, 0, CELLS - 1)) {
            return NO_SUCH;
        }
        if (!within(value, 0, LARGEST)) {
            return BAD_VALUE;
        }
        keepState();
        long before = now.cellValue(cell);
        now.changeCell(cell, value);
        return before;
    }

    public long cell(int cell) {
        return within(cell, 0, CELLS - 1) ? now.cellValue(cell) : NO_SUCH;
    }

    public int put(long characters) {
        int size = sizeOf(characters);
        if (size == 0) {
            return BAD_VALUE;
        }
        if (padLength + size > PAD_SIZE) {
            return TOO_MANY;
        }
        for (int i = size - 1; i >= 0; i--) {
            addToPad((char) ((characters >>> (8 * i)) & 255));
        }
        return padLength;
    }

    public int wipe() {
        int before = padLength;
        padLength = 0;
        return before;
    }

    public int fault() {
        return reader.faultOf(pad, padLength);
    }

    public int load(int formula) {
        if (!within(formula, 0, FORMULAS - 1)) {
            return NO_SUCH;
        }
        if (reader.faultOf(pad, padLength) != NONE) {
            return BAD_TEXT;
        }
        keepState();
        Formula read = new Formula(reader.steps, reader.size);
        now.changeFormula(formula, read);
        padLength = 0;
        return read.steps.length;
    }

    public long assign(int cell, int formula) {
        Formula named = now.formula(formula);
        if (!within(cell, 0, CELLS - 1) || named == null) {
            return NO_SUCH;
        }
        reckoner.reckon(named, now);
        if (reckoner.reason != 0) {
            return NOT_POSSIBLE;
        }
        keepState();
        now.changeCell(cell, reckoner.result());
        return reckoner.result();
    }

    public int settle(int cell, int formula, int times) {
        Formula named = now.formula(formula);
        if (!within(cell, 0, CELLS - 1) || named == null) {
            return NO_SUCH;
        }
        if (!within(times, 1, MOST_TIMES)) {
            return BAD_VALUE;
        }
        keepState();
        for (int done = 0; done < times; done++) {
            reckoner.reckon(named, now);
            if (reckoner.reason != 0) {
                return done;
            }
            if (reckoner.result() == now.cellValue(cell)) {
                return done + 1;
            }
            now.changeCell(cell, reckoner.result());
        }
        return times;
    }

    // ---- what formulas are

    public long value(int formula) {
        Formula named = now.formula(formula);
        if (named == null) {
            return NO_SUCH;
        }
        reckoner.reckon(named, now);
        return reckoner.reason == 0 ? reckoner.result() : NOT_POSSIBLE;
    }

    public int ofFormula(int formula, int what) {
        Formula named = now.formula(formula);
        if (named == null) {
            return NO_SUCH;
        }
        reckoner.reckon(named, now);
        switch (what) {
            case 0:
                return named.steps.length;
            case 1:
                return named.cellsNamed();
            case 2:
                return reckoner.reason;
            case 3:
                return reckoner.reason == 0 ? NONE : reckoner.reached;
            case 4:
                return named.rootsInside();
            default:
                return BAD_VALUE;
        }
    }

    public long stepValue(int formula, int step) {
        Formula named = now.formula(formula);
        if (named == null || !within(step, 0, named.steps.length - 1)) {
            return NO_SUCH;
        }
        reckoner.reckon(named, now);
        return step < reckoner.reached ? reckoner.valueOf(step) : NOT_POSSIBLE;
    }

    public int count(int what) {
        switch (what) {
            case 0:
                return now.formulasThere();
            case 1:
                return padLength;
            case 2:
                return changes;
            case 3:
                return now.setting(ROUND);
            case 4:
                return now.setting(DIGITS);
            case 5:
                return now.cellsNotZero();
            default:
                return BAD_VALUE;
        }
    }

    // ---- roots

    public int root(long n, int kind) {
        if (!within(n, 0, LARGEST) || !within(kind, SQUARE, CUBE)) {
            return BAD_VALUE;
        }
        return (int) rootRounded(n, kind, now.setting(ROUND));
    }

    public long remainder(long n, int kind) {
        if (!within(n, 0, LARGEST) || !within(kind, SQUARE, CUBE)) {
            return BAD_VALUE;
        }
        return n - power(rootDown(n, kind), kind);
    }

    public long bit(long n, int kind, int step, int what) {
        if (!within(n, 0, LARGEST) || !within(kind, SQUARE, CUBE) || !within(what, 0, 3) || step < -1) {
            return BAD_VALUE;
        }
        return step == -1 ? bitsOfRoot(n, kind) : behindBit(n, kind, step, what);
    }

    public int digits(int n) {
        if (!within(n, 0, MILLION)) {
            return BAD_VALUE;
        }
        long scaled = n;
        for (int i = 0; i < now.setting(DIGITS); i++) {
            scaled *= 100;
        }
        return (int) rootRounded(scaled, SQUARE, now.setting(ROUND));
    }

    public int compare(int a, int b, int c, int d) {
        if (!comparable(a) || !comparable(b) || !comparable(c) || !comparable(d)) {
            return BAD_VALUE;
        }
        // Both sums squared leave a + b + root of 4ab against c + d + root of 4cd.
        int sign = signOfRoots(4L * a * b, 4L * c * d, (long) c + d - a - b);
        if (sign == 0) {
            return 0;
        }
        return sign > 0 ? 1 : 2;
    }

    // ---- fractions

    public int period(int n) {
        if (!within(n, 0, MOST_FRACTION)) {
            return BAD_VALUE;
        }
        fraction.start(n);
        for (int length = 1; length <= LONGEST_PERIOD; length++) {
            if (!fraction.goesOn()) {
                return NONE;
            }
            // The divisor is 1 again only where the terms begin anew.
            if (fraction.divisor == 1) {
                return length;
            }
        }
        return NONE;
    }

    public int term(int n, int term) {
        if (!within(n, 0, MOST_FRACTION) || !within(term, 0, MOST_TERM)) {
            return BAD_VALUE;
        }
        fraction.start(n);
        for (int i = 0; i < term; i++) {
            if (!fraction.goesOn()) {
                return NONE;
            }
        }
        return fraction.quotient;
    }

    public long convergent(int n, int term, int part) {
        if (!within(n, 0, MOST_FRACTION) || !within(term, 0, MOST_TERM) || !within(part, 0, 1)) {
            return BAD_VALUE;
        }
        fraction.start(n);
        for (int i = 0; i < term; i++) {
            if (!fraction.goesOn()) {
                return NONE;
            }
            fraction.extend();
            if (fraction.upper > LARGEST || fraction.lower > LARGEST) {
                return NONE;
            }
        }
        return part == 0 ? fraction.upper : fraction.lower;
    }

    // ---- squares

    public int twoSquares(int n, int what) {
        if (!within(n, 0, MILLION) || !within(what, 0, 2)) {
            return BAD_VALUE;
        }
        int ways = 0;
        int b = (int) rootDown(n, SQUARE);
        for (int a = 0; a <= b; a++) {
            while (b > a && a * a + b * b > n) {
                b--;
            }
            if (a * a + b * b == n) {
                if (what != 0) {
                    return what == 1 ? a : b;
                }
                ways++;
            }
        }
        return what == 0 ? ways : NONE;
    }

    public int powers(long from, long to) {
        if (!within(from, 0, LARGEST) || !within(to, from, LARGEST)) {
            return BAD_VALUE;
        }
        return (int) (powersBelow(to + 1) - powersBelow(from));
    }

    public long rootSum(int n) {
        if (!within(n, 0, MOST_SUMMED)) {
            return BAD_VALUE;
        }
        long top = rootDown(n, SQUARE);
        // Each root r below the top one stands 2r + 1 times: the sum of 2rr + r has a closed form.
        long belowTop = (top - 1) * top * (2 * top - 1) / 3 + (top - 1) * top / 2;
        return belowTop + top * (n - top * top + 1);
    }

    // ---- undo, saving

    public int undo() {
        if (changes == 0) {
            return NOT_POSSIBLE;
        }
        changes--;
        now.become(stateIn(history, (oldest + changes) % HISTORY));
        return changes;
    }

    public int save(int slot) {
        if (!within(slot, 0, slots.length - 1)) {
            return BAD_VALUE;
        }
        if (slots[slot] == null) {
            slots[slot] = new State();
        }
        slots[slot].become(now);
        return now.formulasThere();
    }

    public int restore(int slot) {
        if (!within(slot, 0, slots.length - 1)) {
            return BAD_VALUE;
        }
        State saved = slots[slot];
        if (saved == null) {
            return NOT_POSSIBLE;
        }
        keepState();
        now.become(saved);
        return now.formulasThere();
    }

    // ---- the history

    private void keepState() {
        if (changes == HISTORY) {
            oldest = (oldest + 1) % HISTORY;
            changes--;
        }
        State kept = stateIn(history, (oldest + changes) % HISTORY);
        if (kept != null) {
            kept.become(now);
            changes++;
        }
    }

    private static State stateIn(State[] row, int index) {
        return index >= 0 && index < row.length ? row[index] : null;
    }

    // ---- the pad

    /** How many characters the number holds; 0 if there is none, or anything else in it. */
    private static int sizeOf(long characters) {
        long rest = characters;
        int size = 0;
        while (rest != 0 && size < CHARACTERS) {
            if (!within(rest & 255, LOWEST_CODE, HIGHEST_CODE)) {
                return 0;
            }
            rest >>>= 8;
            size++;
        }
        return size;
    }

    private void addToPad(char character) {
        if (padLength >= 0 && padLength < pad.length) {
            pad[padLength] = character;
            padLength++;
        }
    }

    // ---- numbers

    private static boolean within(long number, long least, long most) {
        return number >= least && number <= most;
    }

    private static boolean comparable(int number) {
        return within(number, 0, MOST_COMPARED);
    }

    private static long power(long base, int kind) {
        return kind == CUBE ? base * base * base : base * base;
    }

    /** The greatest power of 2 whose power is at most n; 0 if n is 0. */
    private static long firstBit(long n, int kind) {
        if (n < 1) {
            return 0;
        }
        long bit = 1;
        while (bit < TOP_BIT && power(2 * bit, kind) <= n) {
            bit *= 2;
        }
        return bit;
    }

    private static long rootDown(long n, int kind) {
        long root = 0;
        for (long bit = firstBit(n, kind); bit > 0; bit /= 2) {
            if (power(root + bit, kind) <= n) {
                root += bit;
            }
        }
        return root;
    }

    private static long rootRounded(long n, int kind, int round) {
        long root = rootDown(n, kind);
        long rest = n - power(root, kind);
        if (round == 2) {
            return rest > 0 ? root + 1 : root;
        }
        if (round == 1) {
            boolean nearerAbove = kind == CUBE ? 8 * n > power(2 * root + 1, CUBE) : rest > root;
            return nearerAbove ? root + 1 : root;
        }
        return root;
    }

    private static int bitsOfRoot(long n, int kind) {
        int bits = 0;
        for (long bit = firstBit(n, kind); bit > 0; bit /= 2) {
            bits++;
        }
        return bits;
    }

    private static long behindBit(long n, int kind, int step, int what) {
        long root = 0;
        int at = 0;
        for (long bit = firstBit(n, kind); bit > 0; bit /= 2) {
            boolean taken = power(root + bit, kind) <= n;
            if (taken) {
                root += bit;
            }
            if (at == step) {
                switch (what) {
                    case 0:
                        return bit;
                    case 1:
                        return taken ? 1 : 0;
                    case 2:
                        return root;
                    default:
                        return n - power(root, kind);
                }
            }
            at++;
        }
        return NONE;
    }

    /** The sign of: the root of p, less the root of q, less d. */
    private static int signOfRoots(long p, long q, long d) {
        if (d < 0) {
            return -signOfRootsAgainst(q, p, -d);
        }
        return signOfRootsAgainst(p, q, d);
    }

    /** The same for a d that is not below 0: p is held against the square of d and the root of q together. */
    private static int signOfRootsAgainst(long p, long q, long d) {
        long left = p - q - d * d;
        if (left < 0) {
            return -1;
        }
        return Long.compare(left * left, 4 * d * d * q);
    }

    /** How many numbers below the end are squares or third powers. */
    private static long powersBelow(long end) {
        if (end < 1) {
            return 0;
        }
        long squares = rootDown(end - 1, SQUARE);
        // What is a square and a third power is a sixth power, and was counted twice.
        return squares + rootDown(end - 1, CUBE) - rootDown(squares, CUBE) + 1;
    }

    /** The settings, the cells and the formulas. */
    private static final class State {
        private final int[] settings = {0, 3};
        private final long[] cells = new long[CELLS];
        private final Formula[] formulas = new Formula[FORMULAS];

        private void become(State other) {
            if (other == null) {
                return;
            }
            for (int i = 0; i < settings.length; i++) {
                settings[i] = other.setting(i);
            }
            for (int i = 0; i < cells.length; i++) {
                cells[i] = other.cellValue(i);
            }
            for (int i = 0; i < formulas.length; i++) {
                formulas[i] = other.formula(i);
            }
        }

        private int setting(int index) {
            return index >= 0 && index < settings.length ? settings[index] : 0;
        }

        private void changeSetting(int index, int number) {
            if (index >= 0 && index < settings.length) {
                settings[index] = number;
            }
        }

        private long cellValue(int index) {
            return index >= 0 && index < cells.length ? cells[index] : 0;
        }

        private void changeCell(int index, long number) {
            if (index >= 0 && index < cells.length) {
                cells[index] = number;
            }
        }

        /** The formula, or null if it is not there. */
        private Formula formula(int index) {
            return index >= 0 && index < formulas.length ? formulas[index] : null;
        }

        private void changeFormula(int index, Formula formula) {
            if (index >= 0 && index < formulas.length) {
                formulas[index] = formula;
            }
        }

        private int formulasThere() {
            int there = 0;
            for (int i = 0; i < formulas.length; i++) {
                if (formulas[i] != null) {
                    there |= 1 << i;
                }
            }
            return there;
        }

        private int cellsNotZero() {
            int notZero = 0;
            for (int i = 0; i < cells.length; i++) {
                if (cells[i] != 0) {
                    notZero++;
                }
            }
            return notZero;
        }
    }

    /** A formula by its steps; nothing in it changes once it is made, so states may share it. */
    private static final class Formula {
        private final int[] steps;

        private Formula(int[] row, int size) {
            steps = new int[Math.max(0, size)];
            for (int i = 0; i < steps.length && i < row.length; i++) {
                steps[i] = row[i];
            }
        }

        private int cellsNamed() {
            int named = 0;
            for (int i = 0; i < steps.length; i++) {
                int cell = steps[i] - SIGN - 'A';
                if (within(cell, 0, CELLS - 1)) {
                    named |= 1 << cell;
                }
            }
            return named;
        }

        private int rootsInside() {
            int roots = 0;
            for (int i = 0; i < steps.length; i++) {
                if (steps[i] == SIGN + 'q' || steps[i] == SIGN + 'k') {
                    roots++;
                }
            }
            return roots;
        }
    }

    /** Reads a text as a formula, one character after the other, and lines up its steps. */
    private static final class Reader {
        // What may stand next: a factor, the bracket of q, k or s, more digits too, or what follows a factor.
        private static final int FACTOR = 0, BRACKET = 1, DIGIT = 2, BEHIND = 3;

        private final int[] steps = new int[PAD_SIZE];
        private final char[] waiting = new char[PAD_SIZE];
        private int size;
        private int waits;
        private int open;
        private int next;

        /** The fault of the text; NONE if it is a formula, and the row holds its steps then. */
        private int faultOf(char[] text, int length) {
            size = 0;
            waits = 0;
            open = 0;
            next = FACTOR;
            for (int i = 0; i < length && i < text.length; i++) {
                if (!takes(text[i])) {
                    return i;
                }
            }
            if (next == FACTOR || next == BRACKET || open > 0) {
                return length;
            }
            release(1);
            return NONE;
        }

        private boolean takes(char character) {
            switch (next) {
                case FACTOR:
                    return takesFactor(character);
                case BRACKET:
                    next = FACTOR;
                    return character == '(';
                case DIGIT:
                    return isDigit(character) ? takesDigit(character) : takesBehind(character);
                default:
                    return takesBehind(character);
            }
        }

        private boolean takesFactor(char character) {
            if (isDigit(character)) {
                addStep(character - '0');
                next = DIGIT;
                return true;
            }
            if (within(character, 'A', 'A' + CELLS - 1)) {
                addStep(SIGN + character);
                next = BEHIND;
                return true;
            }
            if (character == '(' || character == 'q' || character == 'k' || character == 's') {
                push(character);
                open++;
                next = character == '(' ? FACTOR : BRACKET;
                return true;
            }
            return false;
        }

        private boolean takesDigit(char character) {
            int last = size - 1;
            if (last < 0 || last >= steps.length || steps[last] == 0) {
                return false;
            }
            int number = steps[last] * 10 + character - '0';
            if (number > GREATEST_NUMBER) {
                return false;
            }
            steps[last] = number;
            return true;
        }

        private boolean takesBehind(char character) {
            if (character == ')' && open > 0) {
                closeBracket();
                return true;
            }
            int strength = strengthOf(character);
            if (strength == 0) {
                return false;
            }
            release(strength);
            push(character);
            next = FACTOR;
            return true;
        }

        private void closeBracket() {
            release(1);
            char bracket = top();
            waits--;
            open--;
            if (bracket != '(') {
                addStep(SIGN + bracket);
            }
            next = BEHIND;
        }

        /** Makes steps of the waiting operations that are at least so strong, as far as the last open bracket. */
        private void release(int strength) {
            while (waits > 0 && strengthOf(top()) >= strength) {
                addStep(SIGN + top());
                waits--;
            }
        }

        private static int strengthOf(char character) {
            if (character == '*') {
                return 2;
            }
            return character == '+' || character == '-' ? 1 : 0;
        }

        private static boolean isDigit(char character) {
            return character >= '0' && character <= '9';
        }

        private void addStep(int step) {
            if (size >= 0 && size < steps.length) {
                steps[size] = step;
                size++;
            }
        }

        private void push(char character) {
            if (waits >= 0 && waits < waiting.length) {
                waiting[waits] = character;
                waits++;
            }
        }

        private char top() {
            int last = waits - 1;
            return last >= 0 && last < waiting.length ? waiting[last] : '(';
        }
    }

    /** Reckons a formula step by step, and keeps the values of its steps until the next one. */
    private static final class Reckoner {
        private final long[] values = new long[PAD_SIZE];
        private final long[] operands = new long[PAD_SIZE];
        private int height;
        private int reached;
        private int reason;

        /** The reason is 0 then, or the steps that were reached end ahead of the one that has no value. */
        private void reckon(Formula formula, State state) {
            height = 0;
            reached = 0;
            reason = 0;
            for (int i = 0; i < formula.steps.length && i < values.length; i++) {
                long number = numberOf(formula.steps[i], state);
                if (number > LARGEST) {
                    reason = TOO_LARGE;
                    return;
                }
                if (number < 0) {
                    reason = BELOW_ZERO;
                    return;
                }
                values[i] = number;
                reached++;
                push(number);
            }
        }

        private long numberOf(int step, State state) {
            if (step < SIGN) {
                return step;
            }
            int cell = step - SIGN - 'A';
            if (within(cell, 0, CELLS - 1)) {
                return state.cellValue(cell);
            }
            long last = pop();
            switch (step - SIGN) {
                case 'q':
                    return rootRounded(last, SQUARE, state.setting(ROUND));
                case 'k':
                    return rootRounded(last, CUBE, state.setting(ROUND));
                case 's':
                    return product(last, last);
                case '*':
                    return product(pop(), last);
                case '+':
                    return pop() + last;
                default:
                    return pop() - last;
            }
        }

        /** The product, or a number above LARGEST in place of one that a long might not hold. */
        private static long product(long left, long right) {
            return left > 0 && right > LARGEST / left ? LARGEST + 1 : left * right;
        }

        private long result() {
            return valueOf(reached - 1);
        }

        private long valueOf(int step) {
            return step >= 0 && step < values.length ? values[step] : 0;
        }

        private void push(long number) {
            if (height >= 0 && height < operands.length) {
                operands[height] = number;
                height++;
            }
        }

        private long pop() {
            if (height < 1 || height > operands.length) {
                return 0;
            }
            height--;
            return operands[height];
        }
    }

    /** The continued fraction of the square root of a number, term by term, and the convergent of its terms. */
    private static final class Fraction {
        private int number;
        private int whole;
        private int addend;
        private int divisor;
        private int quotient;
        private long upper;
        private long lower;
        private long upperBefore;
        private long lowerBefore;

        private void start(int n) {
            number = n;
            whole = (int) rootDown(n, SQUARE);
            addend = 0;
            divisor = 1;
            quotient = whole;
            upper = whole;
            lower = 1;
            upperBefore = 1;
            lowerBefore = 0;
        }

        /** Goes on to the next term; false if there is none. */
        private boolean goesOn() {
            if (whole * whole == number || divisor < 1) {
                return false;
            }
            addend = divisor * quotient - addend;
            divisor = (number - addend * addend) / divisor;
            if (divisor < 1) {
                return false;
            }
            quotient = (whole + addend) / divisor;
            return true;
        }

        /** Takes the term that stands now into the convergent. */
        private void extend() {
            long nextUpper = quotient * upper + upperBefore;
            long nextLower = quotient * lower + lowerBefore;
            upperBefore = upper;
            lowerBefore = lower;
            upper = nextUpper;
            lower = nextLower;
        }
    }
}
