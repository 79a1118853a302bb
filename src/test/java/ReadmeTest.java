import java.io.File;
import java.io.IOException;
import java.lang.reflect.Method;
import java.lang.reflect.Modifier;
import java.net.URL;
import java.net.URLClassLoader;
import java.nio.file.Files;
import java.nio.file.Path;
import java.util.ArrayList;
import java.util.List;
import java.util.Set;
import java.util.TreeSet;
import java.util.function.BiConsumer;
import java.util.regex.Matcher;
import java.util.regex.Pattern;
import java.util.spi.ToolProvider;

/**
 * That README.md is true of the project: the calls that it shows are compiled as they stand there
 * and run, with the answers that it tells; the numbers, files and tests that it names are there.
 */
public final class ReadmeTest {
    private static final Path README = Path.of("README.md");
    private static final Path MADE = Path.of("build", "readme");
    private static final String[] NAMES = {"NONE", "UNKNOWN", "OUTSIDE", "NOT", "FULL"};

    private static final Pattern OBJECT = Pattern.compile("SenderRows x = (new SenderRows\\(\\));( +// .*)?");
    private static final Pattern CALL =
        Pattern.compile("(x\\.(\\w+)\\([^;]*\\)); +// (-?\\d+|[A-Z]+)(: .*)?");

    private static final Due due = new Due();

    public static void main(String[] args) throws Exception {
        String page = Files.readString(README);
        List<String> shown = blocks(page, "java");
        due.holds("README shows calls", !shown.isEmpty());
        runShown(shown);
        allIsShown(shown);
        numbers(page);
        files(page);
        tests(page);
        commands(page);
        due.end();
    }

    /** The lines of all blocks of one language, one block after the other. */
    private static List<String> blocks(String page, String language) {
        List<String> lines = new ArrayList<>();
        boolean inside = false;
        for (String line : page.split("\n")) {
            if (line.startsWith("```")) inside = !inside && line.equals("```" + language);
            else if (inside && !line.isBlank()) lines.add(line);
        }
        return lines;
    }

    // ---- the calls

    /** Each line becomes a row of a class that tells what was answered and what is due. */
    private static void runShown(List<String> shown) throws Exception {
        StringBuilder code = new StringBuilder("public final class ReadmeCalls {\n");
        code.append("public static void run(java.util.function.BiConsumer<String, long[]> told) {\nSenderRows x = null;\n");
        for (String line : shown) code.append(rowFor(line)).append('\n');
        code.append("}\n}\n");
        Files.createDirectories(MADE);
        Path source = MADE.resolve("ReadmeCalls.java");
        Files.writeString(source, code);
        if (!compile(source)) {
            due.holds("what README shows is Java that compiles", false);
            return;
        }
        BiConsumer<String, long[]> told = (call, answers) -> due.is("README: " + call, answers[0], answers[1]);
        try (URLClassLoader loader = new URLClassLoader(new URL[] {MADE.toUri().toURL()}, ReadmeTest.class.getClassLoader())) {
            loader.loadClass("ReadmeCalls").getMethod("run", BiConsumer.class).invoke(null, told);
        }
    }

    private static boolean compile(Path source) {
        ToolProvider javac = ToolProvider.findFirst("javac").orElseThrow();
        String path = System.getProperty("java.class.path");
        return javac.run(System.out, System.out, "-cp", path, "-d", MADE.toString(), source.toString()) == 0;
    }

    private static String rowFor(String line) {
        Matcher object = OBJECT.matcher(line);
        if (object.matches()) return "x = " + object.group(1) + ";";
        Matcher call = CALL.matcher(line);
        boolean told = call.matches();
        due.holds("README tells the answer of: " + line, told);
        if (!told) return "";
        String answer = call.group(3);
        String want = Character.isLetter(answer.charAt(0)) ? "SenderRows." + answer : answer;
        return "told.accept(\"" + call.group(1) + "\", new long[] {" + call.group(1) + ", " + want + "});";
    }

    private static void allIsShown(List<String> shown) {
        Set<String> calls = new TreeSet<>();
        Set<String> answers = new TreeSet<>();
        for (String line : shown) {
            Matcher call = CALL.matcher(line);
            if (!call.matches()) continue;
            calls.add(call.group(2));
            answers.add(call.group(3));
        }
        for (Method m : SenderRows.class.getDeclaredMethods()) {
            if (Modifier.isPublic(m.getModifiers())) due.holds("README shows " + m.getName(), calls.contains(m.getName()));
        }
        for (String name : NAMES) due.holds("README shows an answer of " + name, answers.contains(name));
    }

    // ---- the words

    private static Set<String> found(String page, String pattern) {
        Set<String> found = new TreeSet<>();
        Matcher m = Pattern.compile(pattern, Pattern.MULTILINE).matcher(page);
        while (m.find()) found.add(m.group(1));
        return found;
    }

    private static void numbers(String page) throws ReflectiveOperationException {
        for (String name : NAMES) {
            int number = SenderRows.class.getField(name).getInt(null);
            String row = name.equals("NONE") ? "`NONE`, " + number + "," : "| `" + name + "` | " + number + " |";
            due.holds("README has " + row, page.contains(row));
        }
    }

    /** Whatever is written as a path is there. */
    private static void files(String page) {
        Set<String> paths = found(page, "`([.\\w]+/[^`\\s]*)`");
        due.holds("README names the class", paths.contains("src/main/java/SenderRows.java"));
        due.holds("README names the document", paths.contains("../shared/DOC.md"));
        for (String path : paths) due.holds("there is " + path, Files.exists(Path.of(path)));
    }

    private static void tests(String page) {
        Set<String> there = new TreeSet<>();
        for (File file : Path.of("src", "test", "java").toFile().listFiles()) {
            String name = file.getName();
            if (name.endsWith("Test.java")) there.add(name.substring(0, name.length() - 5));
        }
        Set<String> named = found(page, "^\\| `(\\w+Test)` \\|");
        due.holds("README names " + there + ", but " + named + ", so that they are the same", named.equals(there));
    }

    private static void commands(String page) throws IOException {
        List<String> commands = blocks(page, "sh");
        due.holds("README says how to run the tests", commands.equals(List.of(".ci/run")));
        Path script = Path.of(".ci", "run");
        due.holds("the script can be run", Files.isExecutable(script));
        String text = Files.readString(script);
        due.holds("it runs the tests of the project", text.contains("src/test/java/*Test.java"));
        due.holds("it runs the shared tests", text.contains("../shared/tests"));
    }
}
