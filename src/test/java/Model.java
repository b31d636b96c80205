import java.math.BigDecimal;
import java.math.BigInteger;
import java.math.MathContext;
import java.util.ArrayDeque;
import java.util.ArrayList;
import java.util.Arrays;
import java.util.Deque;
import java.util.HashMap;
import java.util.List;
import java.util.Map;

/**
 * A second reading of the document, made to be plain and not fast, with other means than the class:
 * big numbers, a tree for each formula, searches and tables. Random runs hold the class against it.
 */
final class Model {
    static final int NO_SUCH = -1, BAD_VALUE = -2, BAD_TEXT = -3, TOO_MANY = -4, NOT_POSSIBLE = -5, NONE = -6;
    static final long LARGEST = 1_000_000_000_000L;

    /** Settings, cells and formulas; a formula is kept as its text. */
    private static final class State {
        final int[] settings = {0, 3};
        final long[] cells = new long[8];
        final String[] formulas = new String[6];

        State copy() {
            State copy = new State();
            System.arraycopy(settings, 0, copy.settings, 0, 2);
            System.arraycopy(cells, 0, copy.cells, 0, 8);
            System.arraycopy(formulas, 0, copy.formulas, 0, 6);
            return copy;
        }
    }

    private State state = new State();
    private final Deque<State> history = new ArrayDeque<>();
    private final State[] slots = new State[2];
    private String pad = "";

    private void change() {
        history.addLast(state.copy());
        if (history.size() > 6) {
            history.removeFirst();
        }
    }

    // ---- settings, cells, formulas

    int set(int setting, int value) {
        if (setting != 0 && setting != 1) return BAD_VALUE;
        if (value < 0 || value > (setting == 0 ? 2 : 6)) return BAD_VALUE;
        change();
        int before = state.settings[setting];
        state.settings[setting] = value;
        return before;
    }

    long setCell(int cell, long value) {
        if (cell < 0 || cell > 7) return NO_SUCH;
        if (value < 0 || value > LARGEST) return BAD_VALUE;
        change();
        long before = state.cells[cell];
        state.cells[cell] = value;
        return before;
    }

    long cell(int cell) {
        return cell < 0 || cell > 7 ? NO_SUCH : state.cells[cell];
    }

    int put(long characters) {
        byte[] bytes = new byte[8];
        for (int i = 0; i < 8; i++) bytes[i] = (byte) (characters >>> (56 - 8 * i));
        StringBuilder text = new StringBuilder();
        for (byte b : bytes) {
            if (b == 0 && text.length() == 0) continue;
            if (b < 33 || b > 126) return BAD_VALUE;
            text.append((char) b);
        }
        if (text.length() == 0) return BAD_VALUE;
        if (pad.length() + text.length() > 60) return TOO_MANY;
        pad += text;
        return pad.length();
    }

    int wipe() {
        int before = pad.length();
        pad = "";
        return before;
    }

    int fault() {
        return faultOf(pad);
    }

    int load(int formula) {
        if (formula < 0 || formula > 5) return NO_SUCH;
        if (faultOf(pad) != NONE) return BAD_TEXT;
        change();
        state.formulas[formula] = pad;
        pad = "";
        return stepsOf(state.formulas[formula]).size();
    }

    long assign(int cell, int formula) {
        if (cell < 0 || cell > 7 || !there(formula)) return NO_SUCH;
        long value = value(formula);
        if (value < 0) return NOT_POSSIBLE;
        change();
        state.cells[cell] = value;
        return value;
    }

    int settle(int cell, int formula, int times) {
        if (cell < 0 || cell > 7 || !there(formula)) return NO_SUCH;
        if (times < 1 || times > 100) return BAD_VALUE;
        change();
        int done = 0;
        while (done < times) {
            long value = value(formula);
            if (value < 0) break;
            done++;
            boolean different = state.cells[cell] != value;
            state.cells[cell] = value;
            if (!different) break;
        }
        return done;
    }

    // ---- what formulas are

    private boolean there(int formula) {
        return formula >= 0 && formula <= 5 && state.formulas[formula] != null;
    }

    long value(int formula) {
        if (!there(formula)) return NO_SUCH;
        Reckoning reckoning = reckon(formula);
        return reckoning.reason == 0 ? reckoning.values.get(reckoning.values.size() - 1) : NOT_POSSIBLE;
    }

    int ofFormula(int formula, int what) {
        if (!there(formula)) return NO_SUCH;
        if (what < 0 || what > 4) return BAD_VALUE;
        String text = state.formulas[formula];
        Reckoning reckoning = reckon(formula);
        int cells = 0;
        int roots = 0;
        for (char c : text.toCharArray()) {
            if (c >= 'A' && c <= 'H') cells |= 1 << (c - 'A');
            if (c == 'q' || c == 'k') roots++;
        }
        int[] answers = {stepsOf(text).size(), cells, reckoning.reason,
            reckoning.reason == 0 ? NONE : reckoning.values.size(), roots};
        return answers[what];
    }

    long stepValue(int formula, int step) {
        if (!there(formula)) return NO_SUCH;
        if (step < 0 || step >= stepsOf(state.formulas[formula]).size()) return NO_SUCH;
        List<Long> values = reckon(formula).values;
        return step < values.size() ? values.get(step) : NOT_POSSIBLE;
    }

    int count(int what) {
        switch (what) {
            case 0: return formulaSet();
            case 1: return pad.length();
            case 2: return history.size();
            case 3: return state.settings[0];
            case 4: return state.settings[1];
            case 5: return (int) Arrays.stream(state.cells).filter(c -> c != 0).count();
            default: return BAD_VALUE;
        }
    }

    private int formulaSet() {
        int set = 0;
        for (int i = 0; i < 6; i++) if (state.formulas[i] != null) set |= 1 << i;
        return set;
    }

    // ---- roots

    static long rootDown(BigInteger n, int kind) {
        long low = 0;
        long high = 2_000_000_000L;
        while (low < high) {
            long middle = (low + high + 1) / 2;
            if (BigInteger.valueOf(middle).pow(kind).compareTo(n) <= 0) low = middle; else high = middle - 1;
        }
        return low;
    }

    /** Nearest is decided by the half between r and r + 1: n is held against its power. */
    static long rootRounded(BigInteger n, int kind, int round) {
        long r = rootDown(n, kind);
        boolean exact = BigInteger.valueOf(r).pow(kind).equals(n);
        if (round == 0 || exact) return r;
        if (round == 2) return r + 1;
        BigDecimal half = BigDecimal.valueOf(r).add(new BigDecimal("0.5")).pow(kind);
        return new BigDecimal(n).compareTo(half) > 0 ? r + 1 : r;
    }

    int root(long n, int kind) {
        if (n < 0 || n > LARGEST || kind != 2 && kind != 3) return BAD_VALUE;
        return (int) rootRounded(BigInteger.valueOf(n), kind, state.settings[0]);
    }

    long remainder(long n, int kind) {
        if (n < 0 || n > LARGEST || kind != 2 && kind != 3) return BAD_VALUE;
        BigInteger big = BigInteger.valueOf(n);
        return big.subtract(BigInteger.valueOf(rootDown(big, kind)).pow(kind)).longValueExact();
    }

    /** The bits of the root that is rounded down are the ones that are taken. */
    long bit(long n, int kind, int step, int what) {
        if (n < 0 || n > LARGEST || kind != 2 && kind != 3 || what < 0 || what > 3 || step < -1) return BAD_VALUE;
        long root = rootDown(BigInteger.valueOf(n), kind);
        String bits = root == 0 ? "" : Long.toBinaryString(root);
        if (step == -1) return bits.length();
        if (step >= bits.length()) return NONE;
        int place = bits.length() - 1 - step;
        long soFar = (root >> place) << place;
        long[] answers = {1L << place, bits.charAt(step) - '0', soFar,
            BigInteger.valueOf(n).subtract(BigInteger.valueOf(soFar).pow(kind)).longValueExact()};
        return answers[what];
    }

    int digits(int n) {
        if (n < 0 || n > 1_000_000) return BAD_VALUE;
        BigInteger scaled = BigInteger.valueOf(n).multiply(BigInteger.TEN.pow(2 * state.settings[1]));
        return (int) rootRounded(scaled, 2, state.settings[0]);
    }

    /** Two such sums that are not equal are further apart than 1e-20, so 60 digits tell them. */
    int compare(int a, int b, int c, int d) {
        for (int n : new int[] {a, b, c, d}) if (n < 0 || n > 10_000) return BAD_VALUE;
        BigDecimal apart = rootOf(a).add(rootOf(b)).subtract(rootOf(c)).subtract(rootOf(d));
        if (apart.abs().compareTo(new BigDecimal("1e-40")) < 0) return 0;
        return apart.signum() > 0 ? 1 : 2;
    }

    private static BigDecimal rootOf(int n) {
        return BigDecimal.valueOf(n).sqrt(new MathContext(60));
    }

    // ---- fractions

    private static boolean isSquare(long n) {
        long r = rootDown(BigInteger.valueOf(n), 2);
        return r * r == n;
    }

    /** The terms up to the one that closes the period, found as each (root + p) / q by its whole part. */
    private static List<Integer> termsOf(int n, int[] period) {
        List<Integer> terms = new ArrayList<>();
        Map<Long, Integer> seen = new HashMap<>();
        long p = 0;
        long q = 1;
        long whole = rootDown(BigInteger.valueOf(n), 2);
        while (true) {
            Long key = p * 1_000_000L + q;
            Integer first = seen.putIfAbsent(key, terms.size());
            if (first != null) {
                period[0] = terms.size() - first;
                return terms;
            }
            long a = (p + whole) / q;
            terms.add((int) a);
            p = a * q - p;
            q = (n - p * p) / q;
        }
    }

    int period(int n) {
        if (n < 0 || n > 100_000) return BAD_VALUE;
        if (isSquare(n)) return NONE;
        int[] period = new int[1];
        termsOf(n, period);
        return period[0];
    }

    int term(int n, int term) {
        if (n < 0 || n > 100_000 || term < 0 || term > 500) return BAD_VALUE;
        if (isSquare(n)) return term == 0 ? (int) rootDown(BigInteger.valueOf(n), 2) : NONE;
        int[] period = new int[1];
        List<Integer> terms = termsOf(n, period);
        int index = term;
        while (index >= terms.size()) index -= period[0];
        return terms.get(index);
    }

    long convergent(int n, int term, int part) {
        if (n < 0 || n > 100_000 || term < 0 || term > 500 || part != 0 && part != 1) return BAD_VALUE;
        BigInteger largest = BigInteger.valueOf(LARGEST);
        BigInteger[] fraction = null;
        for (int last = 0; last <= term; last++) {
            if (term(n, last) == NONE) return NONE;
            fraction = fractionOf(n, last);
            if (fraction[0].compareTo(largest) > 0 || fraction[1].compareTo(largest) > 0) return NONE;
        }
        return fraction[part].longValueExact();
    }

    /** Folded up from the last term. */
    private BigInteger[] fractionOf(int n, int last) {
        BigInteger upper = BigInteger.valueOf(term(n, last));
        BigInteger lower = BigInteger.ONE;
        for (int i = last - 1; i >= 0; i--) {
            BigInteger next = BigInteger.valueOf(term(n, i)).multiply(upper).add(lower);
            lower = upper;
            upper = next;
        }
        return new BigInteger[] {upper, lower};
    }

    // ---- squares

    int twoSquares(int n, int what) {
        if (n < 0 || n > 1_000_000 || what < 0 || what > 2) return BAD_VALUE;
        int ways = 0;
        int leastA = NONE;
        int itsB = NONE;
        for (int a = 1000; a >= 0; a--) {
            int rest = n - a * a;
            if (rest < a * a || !isSquare(rest)) continue;
            ways++;
            leastA = a;
            itsB = (int) rootDown(BigInteger.valueOf(rest), 2);
        }
        return what == 0 ? ways : what == 1 ? leastA : itsB;
    }

    private static final long[] POWERS = allPowers();

    private static long[] allPowers() {
        long[] all = new long[1_000_001 + 10_001];
        int size = 0;
        for (long r = 0; r <= 1_000_000; r++) all[size++] = r * r;
        for (long r = 0; r <= 10_000; r++) all[size++] = r * r * r;
        return Arrays.stream(all).sorted().distinct().toArray();
    }

    int powers(long from, long to) {
        if (from < 0 || from > LARGEST || to < from || to > LARGEST) return BAD_VALUE;
        return firstAbove(to) - firstAbove(from - 1);
    }

    private static int firstAbove(long n) {
        int index = Arrays.binarySearch(POWERS, n);
        return index >= 0 ? index + 1 : -index - 1;
    }

    /** Summed root by root: r is the root of all numbers from r * r up to the next square. */
    long rootSum(int n) {
        if (n < 0 || n > 1_000_000_000) return BAD_VALUE;
        long sum = 0;
        for (long r = 0; r * r <= n; r++) {
            long last = Math.min(n, (r + 1) * (r + 1) - 1);
            sum += r * (last - r * r + 1);
        }
        return sum;
    }

    // ---- undo, saving

    int undo() {
        if (history.isEmpty()) return NOT_POSSIBLE;
        state = history.removeLast();
        return history.size();
    }

    int save(int slot) {
        if (slot != 0 && slot != 1) return BAD_VALUE;
        slots[slot] = state.copy();
        return formulaSet();
    }

    int restore(int slot) {
        if (slot != 0 && slot != 1) return BAD_VALUE;
        if (slots[slot] == null) return NOT_POSSIBLE;
        change();
        state = slots[slot].copy();
        return formulaSet();
    }

    // ---- texts

    /**
     * A character can stand at its place if some text that begins so is a formula: it is looked whether one
     * of a few endings, with all brackets closed, makes the beginning whole.
     */
    static int faultOf(String text) {
        for (int end = 1; end <= text.length(); end++) {
            if (!canGoOn(text.substring(0, end))) return end - 1;
        }
        return isFormula(text) ? NONE : text.length();
    }

    private static boolean canGoOn(String beginning) {
        for (String ending : new String[] {"", "0", "(0)"}) {
            StringBuilder whole = new StringBuilder(beginning).append(ending);
            long open = whole.chars().filter(c -> c == '(').count() - whole.chars().filter(c -> c == ')').count();
            for (long i = 0; i < open; i++) whole.append(')');
            if (isFormula(whole.toString())) return true;
        }
        return false;
    }

    private static boolean isFormula(String text) {
        Parser parser = new Parser(text);
        return parser.formula() && parser.at == text.length();
    }

    private static List<String> stepsOf(String text) {
        Parser parser = new Parser(text);
        parser.formula();
        return parser.steps;
    }

    /** Follows the grammar of the document rule by rule; the steps are words in the order of the document. */
    private static final class Parser {
        final String text;
        final List<String> steps = new ArrayList<>();
        int at;

        Parser(String text) {
            this.text = text;
        }

        private boolean isAt(char c) {
            return at < text.length() && text.charAt(at) == c;
        }

        boolean formula() {
            if (!term()) return false;
            while (isAt('+') || isAt('-')) {
                char sign = text.charAt(at++);
                if (!term()) return false;
                steps.add("" + sign);
            }
            return true;
        }

        private boolean term() {
            if (!factor()) return false;
            while (isAt('*')) {
                at++;
                if (!factor()) return false;
                steps.add("*");
            }
            return true;
        }

        private boolean factor() {
            if (at >= text.length()) return false;
            char c = text.charAt(at);
            if (c >= 'A' && c <= 'H') {
                at++;
                steps.add("" + c);
                return true;
            }
            if (Character.isDigit(c)) return number();
            String step = "";
            if (c == 'q' || c == 'k' || c == 's') {
                step = "" + c;
                at++;
            }
            if (!isAt('(')) return false;
            at++;
            if (!formula() || !isAt(')')) return false;
            at++;
            if (!step.isEmpty()) steps.add(step);
            return true;
        }

        private boolean number() {
            int from = at;
            while (at < text.length() && Character.isDigit(text.charAt(at))) at++;
            String digits = text.substring(from, at);
            steps.add(digits);
            return digits.length() <= 4 && (digits.length() == 1 || digits.charAt(0) != '0');
        }
    }

    // ---- reckoning

    private static final class Reckoning {
        final List<Long> values = new ArrayList<>();
        int reason;
    }

    private Reckoning reckon(int formula) {
        Reckoning reckoning = new Reckoning();
        Deque<BigInteger> stack = new ArrayDeque<>();
        for (String step : stepsOf(state.formulas[formula])) {
            BigInteger number = reckonStep(step, stack);
            if (number.compareTo(BigInteger.valueOf(LARGEST)) > 0) reckoning.reason = 1;
            if (number.signum() < 0) reckoning.reason = 2;
            if (reckoning.reason != 0) break;
            stack.push(number);
            reckoning.values.add(number.longValueExact());
        }
        return reckoning;
    }

    private BigInteger reckonStep(String step, Deque<BigInteger> stack) {
        char c = step.charAt(0);
        if (Character.isDigit(c)) return new BigInteger(step);
        if (c >= 'A' && c <= 'H') return BigInteger.valueOf(state.cells[c - 'A']);
        BigInteger last = stack.pop();
        if (c == 'q') return BigInteger.valueOf(rootRounded(last, 2, state.settings[0]));
        if (c == 'k') return BigInteger.valueOf(rootRounded(last, 3, state.settings[0]));
        if (c == 's') return last.multiply(last);
        BigInteger first = stack.pop();
        return c == '*' ? first.multiply(last) : c == '+' ? first.add(last) : first.subtract(last);
    }
}
