import java.lang.reflect.Constructor;
import java.lang.reflect.Field;
import java.lang.reflect.Member;
import java.lang.reflect.Method;
import java.lang.reflect.Modifier;
import java.util.Set;
import java.util.TreeSet;

/** The public face, its constants, and promise 1: a new object. */
public final class FaceTest {
    private static final Check CHECK = new Check("FaceTest");

    private static final String[] METHODS = {
        "int set(int,int)", "long setCell(int,long)", "long cell(int)", "int put(long)", "int wipe()", "int fault()",
        "int load(int)", "long assign(int,int)", "int settle(int,int,int)", "long value(int)", "int ofFormula(int,int)",
        "long stepValue(int,int)", "int count(int)", "int root(long,int)", "long remainder(long,int)",
        "long bit(long,int,int,int)", "int digits(int)", "int compare(int,int,int,int)", "int period(int)",
        "int term(int,int)", "long convergent(int,int,int)", "int twoSquares(int,int)", "int powers(long,long)",
        "long rootSum(int)", "int undo()", "int save(int)", "int restore(int)"};

    private static final String[] CONSTANTS = {"int NO_SUCH", "int BAD_VALUE", "int BAD_TEXT", "int TOO_MANY",
        "int NOT_POSSIBLE", "int NONE", "int ROUND", "int DIGITS", "long LARGEST"};

    public static void main(String[] args) {
        face();
        constants();
        newObject();
        objectsAreApart();
        CHECK.end();
    }

    private static void face() {
        Set<String> methods = new TreeSet<>();
        for (Method method : RootRows.class.getDeclaredMethods()) {
            if (isSeen(method)) {
                StringBuilder types = new StringBuilder();
                for (Class<?> type : method.getParameterTypes()) {
                    types.append(types.length() == 0 ? "" : ",").append(type.getName());
                }
                methods.add(method.getReturnType().getName() + " " + method.getName() + "(" + types + ")");
                CHECK.isTrue(method.getName() + " is public and of the object",
                    Modifier.isPublic(method.getModifiers()) && !Modifier.isStatic(method.getModifiers()));
            }
        }
        CHECK.isTrue("the methods are those of the face: " + methods, methods.equals(Set.of(METHODS)));
        Set<String> constants = new TreeSet<>();
        for (Field field : RootRows.class.getDeclaredFields()) {
            if (isSeen(field)) {
                constants.add(field.getType().getName() + " " + field.getName());
                int wanted = Modifier.PUBLIC | Modifier.STATIC | Modifier.FINAL;
                CHECK.isTrue(field.getName() + " is public, static and final",
                    (field.getModifiers() & wanted) == wanted);
            }
        }
        CHECK.isTrue("the constants are those of the face: " + constants, constants.equals(Set.of(CONSTANTS)));
        Constructor<?>[] constructors = RootRows.class.getConstructors();
        CHECK.due("public constructors", constructors.length, 1);
        CHECK.due("parameters of the constructor", constructors[0].getParameterCount(), 0);
        CHECK.isTrue("the class is final", Modifier.isFinal(RootRows.class.getModifiers()));
    }

    private static boolean isSeen(Member member) {
        return !Modifier.isPrivate(member.getModifiers()) && !member.isSynthetic();
    }

    private static void constants() {
        CHECK.due("NO_SUCH", RootRows.NO_SUCH, -1);
        CHECK.due("BAD_VALUE", RootRows.BAD_VALUE, -2);
        CHECK.due("BAD_TEXT", RootRows.BAD_TEXT, -3);
        CHECK.due("TOO_MANY", RootRows.TOO_MANY, -4);
        CHECK.due("NOT_POSSIBLE", RootRows.NOT_POSSIBLE, -5);
        CHECK.due("NONE", RootRows.NONE, -6);
        CHECK.due("ROUND", RootRows.ROUND, 0);
        CHECK.due("DIGITS", RootRows.DIGITS, 1);
        CHECK.due("LARGEST", RootRows.LARGEST, 1_000_000_000_000L);
    }

    private static void newObject() {
        RootRows rows = new RootRows();
        for (int i = 0; i < 8; i++) {
            CHECK.due("P1 cell(" + i + ")", rows.cell(i), 0);
        }
        for (int i = 0; i < 6; i++) {
            CHECK.due("P1 value(" + i + ")", rows.value(i), -1);
            CHECK.due("P1 ofFormula(" + i + ", 0)", rows.ofFormula(i, 0), -1);
        }
        long[] counts = {0, 0, 0, 0, 3, 0};
        for (int i = 0; i < counts.length; i++) {
            CHECK.due("P1 count(" + i + ")", rows.count(i), counts[i]);
        }
        CHECK.due("P1 undo()", rows.undo(), -5);
        CHECK.due("P1 restore(0)", rows.restore(0), -5);
        CHECK.due("P1 restore(1)", rows.restore(1), -5);
        CHECK.due("P1 fault()", rows.fault(), 0);
        CHECK.due("P1 wipe()", rows.wipe(), 0);
    }

    private static void objectsAreApart() {
        RootRows one = new RootRows();
        RootRows other = new RootRows();
        one.set(0, 2);
        one.setCell(3, 7);
        Check.make(one, 1, "D");
        one.save(0);
        Check.type(one, "q(");
        CHECK.due("P1 another object's cell(3)", other.cell(3), 0);
        CHECK.due("P1 another object's count(0)", other.count(0), 0);
        CHECK.due("P1 another object's count(1)", other.count(1), 0);
        CHECK.due("P1 another object's count(2)", other.count(2), 0);
        CHECK.due("P1 another object's count(3)", other.count(3), 0);
        CHECK.due("P1 another object's restore(0)", other.restore(0), -5);
    }
}
