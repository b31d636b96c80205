import java.io.IOException;
import java.nio.file.Files;
import java.nio.file.Path;
import java.util.regex.Matcher;
import java.util.regex.Pattern;

/** The words that LANGUAGE.md keeps out of the class, and no library beyond what it names. */
public final class LanguageTest {
    private static final Check CHECK = new Check("LanguageTest");

    private static final String[] FORBIDDEN = {"\\bthrow\\b", "\\bthrows\\b", "\\btry\\b", "\\bcatch\\b",
        "\\bsynchronized\\b", "\\bassert\\b", "\\bvolatile\\b", "::", "\\w+Exact\\b", "\\bstatic\\s*\\{", "^\\s*package\\b",
        "\\bThread\\b", "\\bRandom\\b", "\\bMath\\s*\\.\\s*random\\b", "\\bnanoTime\\b", "\\bcurrentTimeMillis\\b",
        "\\bBig(Integer|Decimal)\\b", "\\b(Hash|Tree)(Map|Set)\\b", "\\bMath\\s*\\.\\s*(sqrt|cbrt|pow|floor)\\b",
        "\\bSystem\\s*\\.\\s*(out|err|in|exit|getenv|getProperty)\\b", "\\bjava\\.(io|nio|net|time|math)\\b",
        "\\b(equals|hashCode|toString)\\s*\\([^)]*\\)\\s*\\{"};

    /** The first argument is the folder of the project; without one it is the folder that the test is run in. */
    public static void main(String[] args) throws IOException {
        Path root = Path.of(args.length > 0 ? args[0] : ".");
        String code = withoutTexts(Files.readString(root.resolve("src/main/java/RootRows.java")));
        for (String word : FORBIDDEN) {
            Matcher matcher = Pattern.compile(word, Pattern.MULTILINE).matcher(code);
            CHECK.isTrue("the class is free of " + word, !matcher.find());
        }
        Matcher imports = Pattern.compile("^\\s*import\\s+([^;]*);", Pattern.MULTILINE).matcher(code);
        while (imports.find()) {
            CHECK.isTrue("the class may use " + imports.group(1),
                imports.group(1).matches("java\\.util\\.(ArrayList|List|Arrays|Iterator)"));
        }
        CHECK.end();
    }

    /** Comments, texts and characters are no code. */
    private static String withoutTexts(String code) {
        return code.replaceAll("(?s)/\\*.*?\\*/|//[^\\n]*|\"(\\\\.|[^\"\\\\])*\"|'(\\\\.|[^'\\\\])*'", " ");
    }
}
