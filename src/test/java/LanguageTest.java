import java.io.IOException;
import java.lang.reflect.Field;
import java.lang.reflect.Method;
import java.lang.reflect.Modifier;
import java.nio.file.Files;
import java.nio.file.Path;
import java.util.ArrayList;
import java.util.HashSet;
import java.util.List;
import java.util.Set;
import java.util.regex.Matcher;
import java.util.regex.Pattern;

/** The rules of LANGUAGE.md that can be looked up: words and libraries, members, types, and sizes at their bounds. */
public final class LanguageTest {
    private static final Check CHECK = new Check("LanguageTest");
    private static final int MOST_PARAMETERS = 7, MOST_LINES = 60, MOST_CLASSES = 12, MOST_FIELDS = 20;

    private static final String[] FORBIDDEN = {"\\bthrow\\b", "\\bthrows\\b", "\\btry\\b", "\\bcatch\\b",
        "\\bsynchronized\\b", "\\bassert\\b", "\\bvolatile\\b", "::", "->", "\\w+Exact\\b", "\\bstatic\\s*\\{",
        "^\\s*package\\b", "\\bnew\\s+\\w+\\s*\\([^()]*\\)\\s*\\{", "\\bThread\\b", "\\bRandom\\b",
        "\\bMath\\s*\\.\\s*random\\b", "\\bnanoTime\\b", "\\bcurrentTimeMillis\\b",
        "\\bBig(Integer|Decimal)\\b", "\\b(Hash|Tree)(Map|Set)\\b", "\\bMath\\s*\\.\\s*(sqrt|cbrt|pow|floor)\\b",
        "\\bSystem\\s*\\.\\s*(out|err|in|exit|getenv|getProperty)\\b", "\\bjava\\.(io|nio|net|time|math)\\b",
        "\\b(equals|hashCode|toString)\\s*\\([^)]*\\)\\s*\\{"};

    /** The first argument is the folder of the project; without one it is the folder that the test is run in. */
    public static void main(String[] args) throws IOException {
        Path root = Path.of(args.length > 0 ? args[0] : ".");
        String source = Files.readString(root.resolve("src/main/java/RootRows.java"));
        words(withoutTexts(source));
        List<Class<?>> classes = new ArrayList<>();
        addWithInner(RootRows.class, classes);
        CHECK.isTrue("rule 11: there are at most 12 classes", classes.size() <= MOST_CLASSES);
        for (Class<?> each : classes) {
            membersOf(each);
            fieldsOf(each);
        }
        methodsAreShort(source.split("\n"));
        CHECK.end();
    }

    private static void words(String code) {
        for (String word : FORBIDDEN) {
            Matcher matcher = Pattern.compile(word, Pattern.MULTILINE).matcher(code);
            CHECK.isTrue("the class is free of " + word, !matcher.find());
        }
        Matcher imports = Pattern.compile("^\\s*import\\s+([^;]*);", Pattern.MULTILINE).matcher(code);
        while (imports.find()) {
            CHECK.isTrue("the class may use " + imports.group(1),
                imports.group(1).matches("java\\.util\\.(ArrayList|List|Arrays|Iterator)"));
        }
    }

    /** Comments, texts and characters are no code. */
    private static String withoutTexts(String code) {
        return code.replaceAll("(?s)/\\*.*?\\*/|//[^\\n]*|\"(\\\\.|[^\"\\\\])*\"|'(\\\\.|[^'\\\\])*'", " ");
    }

    private static void addWithInner(Class<?> outer, List<Class<?>> classes) {
        classes.add(outer);
        for (Class<?> inner : outer.getDeclaredClasses()) {
            addWithInner(inner, classes);
        }
    }

    private static void membersOf(Class<?> each) {
        Set<String> face = new HashSet<>();
        for (Method method : RootRows.class.getMethods()) {
            if (method.getDeclaringClass() == RootRows.class) {
                face.add(method.getName());
            }
        }
        int hidden = Modifier.PUBLIC | Modifier.PROTECTED;
        if (each != RootRows.class) {
            CHECK.isTrue("rule 2: " + each + " is static", Modifier.isStatic(each.getModifiers()));
            CHECK.isTrue("rule 1: " + each + " is not seen outside", (each.getModifiers() & hidden) == 0);
        }
        for (Method method : each.getDeclaredMethods()) {
            if (method.isSynthetic()) {
                continue;
            }
            CHECK.isTrue("rule 11: " + method + " takes at most 7", method.getParameterCount() <= MOST_PARAMETERS);
            CHECK.isTrue("rule 1: " + method + " has a name of its own",
                Modifier.isPublic(method.getModifiers()) || !face.contains(method.getName()));
        }
    }

    private static void fieldsOf(Class<?> each) {
        int fields = 0;
        for (Field field : each.getDeclaredFields()) {
            if (field.isSynthetic()) {
                continue;
            }
            String type = field.getType().getName();
            if (Modifier.isStatic(field.getModifiers())) {
                CHECK.isTrue("rule 5: " + field + " is final", Modifier.isFinal(field.getModifiers()));
                CHECK.isTrue("rule 5: " + field + " is a constant",
                    type.matches("int|long|boolean|char|java\\.lang\\.String|\\[[IJCB]"));
                continue;
            }
            fields++;
            CHECK.isTrue("rule 3: " + field + " is of a type that is allowed", type.matches("int|long|short|byte|char|boolean"
                + "|double|float|\\[{1,2}[IJSBCZDF]|(\\[L)?RootRows(\\$\\w+)?;?|java\\.lang\\.(String|StringBuilder)"
                + "|java\\.util\\.(Array)?List"));
        }
        CHECK.isTrue("rule 11: " + each + " has at most 20 fields", fields <= MOST_FIELDS);
    }

    /** A method ends at the line that closes it as deep as its first one stands. */
    private static void methodsAreShort(String[] lines) {
        Pattern head = Pattern.compile("^( {4,8})(public|private) .*\\(.*\\) \\{$");
        for (int first = 0; first < lines.length; first++) {
            Matcher matcher = head.matcher(lines[first]);
            if (matcher.matches()) {
                int last = first;
                while (last < lines.length && !lines[last].equals(matcher.group(1) + "}")) {
                    last++;
                }
                CHECK.isTrue("rule 11: short is" + lines[first], last < lines.length && last - first < MOST_LINES);
            }
        }
    }
}
