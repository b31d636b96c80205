import java.io.ByteArrayOutputStream;
import java.io.IOException;
import java.io.PrintStream;
import java.lang.reflect.Field;
import java.lang.reflect.Method;
import java.lang.reflect.Modifier;
import java.net.URL;
import java.net.URLClassLoader;
import java.nio.charset.StandardCharsets;
import java.nio.file.Files;
import java.nio.file.Path;
import java.util.ArrayList;
import java.util.List;
import java.util.Set;
import java.util.TreeSet;
import java.util.regex.Matcher;
import java.util.regex.Pattern;
import java.util.stream.Stream;
import javax.tools.JavaCompiler;
import javax.tools.ToolProvider;

/**
 * README.md, held against the class as it stands: the first example prints what is printed below it, each line of the
 * other examples answers as its comment says, and the calls, codes, constants, files and tests are those that there are.
 */
public final class ReadmeTest {
    private static final Check CHECK = new Check("ReadmeTest");
    private static final Pattern LINE = Pattern.compile("(rows\\.(\\w+)\\(.*\\)); +// (-?\\d+|[A-Z_]+)(, .*)?");
    private static final Pattern CALL = Pattern.compile("- `(int|long) (\\w+)\\(([^)]*)\\)` (.*)");
    private static final Pattern CODE = Pattern.compile("`([A-Z]+(?:_[A-Z]+)?)`");
    private static final Pattern CONSTANT = Pattern.compile("\\| `([A-Z_]+)` \\| (-?\\d+) \\| .*");

    /** A part of the page between two lines of three backticks. */
    private record Block(String language, List<String> lines) {
    }

    /** A line of an example: its call, the name of what it calls, and the answer that its comment names. */
    private record Example(String call, String name, String answer) {
    }

    /** The first argument is the folder of the project; without one it is the folder that the test is run in. */
    public static void main(String[] args) throws Exception {
        Path root = Path.of(args.length > 0 ? args[0] : ".");
        List<String> page = Files.readAllLines(root.resolve("README.md"), StandardCharsets.US_ASCII);
        List<Block> blocks = blocksOf(page);
        List<List<Example>> examples = examplesOf(blocks);
        Path built = Files.createDirectories(root.resolve("build/readme"));
        ClassLoader made = compiled(built, firstExample(blocks), sourceOf(examples));
        firstExamplePrints(made, linesBehindFirstExample(blocks));
        linesAnswer(examples, (long[]) made.loadClass("Answers").getMethod("all").invoke(null));
        callsAreThoseOfTheClass(page);
        codesHaveExamples(page, examples);
        constantsAreThoseOfTheClass(page);
        testsAreThoseOfTheProject(page, root);
        filesAreThere(page, root);
        CHECK.end();
    }

    private static List<Block> blocksOf(List<String> page) {
        List<Block> blocks = new ArrayList<>();
        Block open = null;
        for (String line : page) {
            if (!line.startsWith("```")) {
                if (open != null) {
                    open.lines().add(line);
                }
            } else if (open == null) {
                open = new Block(line.substring(3), new ArrayList<>());
            } else {
                blocks.add(open);
                open = null;
            }
        }
        CHECK.isTrue("each block is closed", open == null);
        return blocks;
    }

    private static boolean isFirstExample(Block block) {
        return block.language().equals("java") && block.lines().get(0).equals("public final class Example {");
    }

    private static String firstExample(List<Block> blocks) {
        return blocks.stream().filter(ReadmeTest::isFirstExample).findFirst()
            .map(block -> String.join("\n", block.lines())).orElseThrow();
    }

    private static List<String> linesBehindFirstExample(List<Block> blocks) {
        return blocks.stream().dropWhile(block -> !isFirstExample(block))
            .filter(block -> block.language().equals("text")).findFirst().orElseThrow().lines();
    }

    /** No line of a block is passed over: each one has to be a call with its answer. */
    private static List<List<Example>> examplesOf(List<Block> blocks) {
        List<List<Example>> all = new ArrayList<>();
        for (Block block : blocks) {
            if (!block.language().equals("java") || isFirstExample(block)) {
                continue;
            }
            List<Example> examples = new ArrayList<>();
            for (String line : block.lines()) {
                Matcher matcher = LINE.matcher(line);
                boolean isExample = matcher.matches();
                CHECK.isTrue("a call and its answer: " + line, isExample);
                if (isExample) {
                    examples.add(new Example(matcher.group(1), matcher.group(2), matcher.group(3)));
                }
            }
            all.add(examples);
        }
        return all;
    }

    /** A class that makes a new object for each block, calls its lines one after the other, and keeps the answers. */
    private static String sourceOf(List<List<Example>> blocks) {
        StringBuilder source = new StringBuilder("public final class Answers {\n"
            + "static long packed(String text) { return Example.packed(text); }\n"
            + "public static long[] all() {\nlong[] answers = new long[" + blocks.stream().mapToInt(List::size).sum() + "];\n"
            + "int at = 0;\nRootRows rows;\n");
        for (List<Example> block : blocks) {
            source.append("rows = new RootRows();\n");
            for (Example example : block) {
                source.append("answers[at++] = ").append(example.call()).append(";\n");
            }
        }
        return source.append("return answers;\n}\n}\n").toString();
    }

    /** Gives what loads the two classes once javac has made them. */
    private static ClassLoader compiled(Path built, String example, String answers) throws IOException {
        Path exampleFile = Files.writeString(built.resolve("Example.java"), example);
        Path answersFile = Files.writeString(built.resolve("Answers.java"), answers);
        JavaCompiler compiler = ToolProvider.getSystemJavaCompiler();
        int failed = compiler.run(null, null, null, "-cp", System.getProperty("java.class.path"), "-d", built.toString(),
            exampleFile.toString(), answersFile.toString());
        CHECK.due("javac of the examples", failed, 0);
        return new URLClassLoader(new URL[] {built.toUri().toURL()}, ReadmeTest.class.getClassLoader());
    }

    private static void firstExamplePrints(ClassLoader loader, List<String> lines) throws Exception {
        Method main = loader.loadClass("Example").getMethod("main", String[].class);
        PrintStream before = System.out;
        ByteArrayOutputStream printed = new ByteArrayOutputStream();
        System.setOut(new PrintStream(printed, true));
        try {
            main.invoke(null, (Object) new String[0]);
        } finally {
            System.setOut(before);
        }
        CHECK.isTrue("the first example prints " + lines + ", it printed " + printed,
            printed.toString().lines().toList().equals(lines));
    }

    private static void linesAnswer(List<List<Example>> blocks, long[] answers) throws Exception {
        int at = 0;
        for (List<Example> block : blocks) {
            for (Example example : block) {
                boolean isNumber = example.answer().matches("-?\\d+");
                long due = isNumber ? Long.parseLong(example.answer()) : valueOf(example.answer());
                CHECK.due(example.call(), answers[at], due);
                CHECK.isTrue(example.call() + " names its code", !isNumber || due >= 0);
                at++;
            }
        }
    }

    private static long valueOf(String constant) throws Exception {
        return ((Number) RootRows.class.getField(constant).get(null)).longValue();
    }

    /** Each call of the page with its own words: from its line to the next call or the end of its paragraph. */
    private static List<Matcher> callsOf(List<String> page) {
        List<Matcher> calls = new ArrayList<>();
        StringBuilder words = new StringBuilder();
        for (String line : page) {
            if (line.startsWith("- `") || line.isBlank()) {
                addCall(calls, words.toString());
                words.setLength(0);
            }
            words.append(words.length() == 0 ? "" : " ").append(line.strip());
        }
        addCall(calls, words.toString());
        return calls;
    }

    private static void addCall(List<Matcher> calls, String words) {
        Matcher matcher = CALL.matcher(words);
        if (matcher.matches()) {
            calls.add(matcher);
        }
    }

    private static List<Method> methods() {
        return Stream.of(RootRows.class.getDeclaredMethods())
            .filter(method -> Modifier.isPublic(method.getModifiers())).toList();
    }

    private static void callsAreThoseOfTheClass(List<String> page) {
        Set<String> told = new TreeSet<>();
        for (Matcher call : callsOf(page)) {
            String types = call.group(3).replaceAll("(int|long) \\w+", "$1").replace(", ", ",");
            told.add(call.group(1) + " " + call.group(2) + "(" + types + ")");
        }
        Set<String> there = new TreeSet<>();
        for (Method method : methods()) {
            String types = String.join(",", Stream.of(method.getParameterTypes()).map(Class::getName).toList());
            there.add(method.getReturnType().getName() + " " + method.getName() + "(" + types + ")");
        }
        CHECK.isTrue("the calls are those of the class: " + told, told.equals(there));
    }

    /** Each code that is named with a call is the answer of one of its examples, and no other code is. */
    private static void codesHaveExamples(List<String> page, List<List<Example>> blocks) throws Exception {
        Set<String> told = new TreeSet<>();
        for (Matcher call : callsOf(page)) {
            told.add(call.group(2));
            Matcher code = CODE.matcher(call.group(4));
            while (code.find()) {
                if (valueOf(code.group(1)) < 0) {
                    told.add(call.group(2) + " " + code.group(1));
                }
            }
        }
        Set<String> shown = new TreeSet<>();
        for (List<Example> block : blocks) {
            for (Example example : block) {
                boolean isNumber = example.answer().matches("\\d+");
                shown.add(isNumber ? example.name() : example.name() + " " + example.answer());
            }
        }
        CHECK.isTrue("each call and each of its codes has an example: " + told + ", " + shown, told.equals(shown));
    }

    private static void constantsAreThoseOfTheClass(List<String> page) throws Exception {
        Set<String> told = new TreeSet<>();
        for (String line : page) {
            Matcher matcher = CONSTANT.matcher(line);
            if (matcher.matches()) {
                told.add(matcher.group(1) + " = " + matcher.group(2));
            }
        }
        Set<String> there = new TreeSet<>();
        for (Field field : RootRows.class.getFields()) {
            there.add(field.getName() + " = " + valueOf(field.getName()));
        }
        CHECK.isTrue("the constants are those of the class: " + told, told.equals(there));
    }

    private static void testsAreThoseOfTheProject(List<String> page, Path root) throws IOException {
        Set<String> told = new TreeSet<>();
        for (String line : page) {
            Matcher matcher = Pattern.compile("\\| `(\\w+Test)` \\| .*").matcher(line);
            if (matcher.matches()) {
                told.add(matcher.group(1) + ".java");
            }
        }
        Set<String> there = new TreeSet<>();
        try (Stream<Path> files = Files.list(root.resolve("src/test/java"))) {
            files.map(file -> file.getFileName().toString()).filter(name -> name.endsWith("Test.java")).forEach(there::add);
        }
        CHECK.isTrue("the tests are those of the project: " + told, told.equals(there));
    }

    /** What the page calls a file of the project is one. */
    private static void filesAreThere(List<String> page, Path root) {
        Matcher file = Pattern.compile("`((?:src/|\\.ci/|NOTES)[\\w./]*)`").matcher(String.join("\n", page));
        int found = 0;
        while (file.find()) {
            CHECK.isTrue("there is " + file.group(1), Files.exists(root.resolve(file.group(1))));
            found++;
        }
        CHECK.isTrue("files are named", found > 0);
    }
}
