import java.io.IOException;
import java.lang.reflect.InvocationTargetException;
import java.net.URL;
import java.net.URLClassLoader;
import java.nio.file.Files;
import java.nio.file.Path;
import java.util.ArrayList;
import java.util.List;
import java.util.Set;
import java.util.TreeSet;
import java.util.regex.Matcher;
import java.util.regex.Pattern;
import java.util.stream.Collectors;
import java.util.stream.Stream;
import javax.tools.JavaCompiler;
import javax.tools.ToolProvider;

/** What README.md shows: its calls answer what stands behind them, and its command runs the tests that it names. */
public final class ReadmeTest {
    private static final Path TESTS = Path.of("src/test/java");
    private static final Path MADE = Path.of("build/readme");
    private static final Pattern BLOCK = Pattern.compile("(?ms)^```java\n(.*?)^```$");
    private static final Pattern CALL = Pattern.compile("((\\w+)\\.(\\w+)\\(.*\\)); +// (throws \\w+|\"|'.'|[^:\"]+)(?:: .*)?");
    private static final Pattern QUOTED = Pattern.compile(".*// \\d+: \"([^\"]*)\".*");
    private static final Pattern PACKED = Pattern.compile(".*\\(0x([0-9a-f]{8})\\);.*");

    public static void main(String[] args) throws Exception {
        String readme = Files.readString(Path.of("README.md"));
        List<String> blocks = blocksOf(readme);
        Check.due("blocks of calls in README.md", blocks.size(), 2);
        run(programOf(blocks));
        callsOfEachPartAreShown(blocks);
        theCommandIsTheOne(readme);
        theTestsAreNamed(readme);
        Check.end("ReadmeTest");
    }

    private static List<String> blocksOf(String readme) {
        List<String> blocks = new ArrayList<>();
        Matcher block = BLOCK.matcher(readme);
        while (block.find()) {
            blocks.add(block.group(1));
        }
        return blocks;
    }

    /** A class that makes the calls as they stand in README.md, each within the check of its answer. */
    private static String programOf(List<String> blocks) {
        StringBuilder program = new StringBuilder("public final class ReadmeCalls {\n");
        program.append("    public static void main(String[] args) {\n");
        for (String block : blocks) {
            program.append("        {\n");
            for (String line : block.split("\n")) {
                program.append(checked(line)).append('\n');
            }
            program.append("        }\n");
        }
        return program.append("    }\n}\n").toString();
    }

    private static String checked(String line) {
        if (line.matches("DoorDialect \\w+ = new DoorDialect\\(\\);")) {
            return line;
        }
        Matcher row = CALL.matcher(line);
        if (!row.matches()) {
            Check.due("README.md: \"" + line + "\" is a call and its answer", false, true);
            return "";
        }
        String call = row.group(1);
        String answer = row.group(4);
        String told = "\"README.md: " + call.replace("\"", "\\\"") + "\", ";
        if (answer.startsWith("throws ")) {
            return "Check.throwsDue(" + told + thrown(answer.substring(7)) + ".class, () -> " + call + ");";
        }
        String check = "Check.due(" + told + call + ", " + answer + ");";
        Matcher quoted = QUOTED.matcher(line);
        String text = quoted.matches() ? quoted.group(1) : null;
        if (row.group(3).equals("line") || row.group(3).equals("endings")) {
            check += " Check.due(" + told + "Check.lineOf(" + row.group(2) + ", " + answer + "), \"" + text + "\");";
        }
        if (row.group(3).equals("append")) {
            Check.due("README.md: the characters of " + call, text, unpacked(line));
        }
        return check;
    }

    private static String thrown(String name) {
        return name.equals("NoSuchElementException") ? "java.util." + name : name;
    }

    private static String unpacked(String line) {
        Matcher packed = PACKED.matcher(line);
        StringBuilder text = new StringBuilder();
        for (int i = 0; packed.matches() && i < 8; i += 2) {
            char sign = (char) Integer.parseInt(packed.group(1).substring(i, i + 2), 16);
            if (sign != 0) {
                text.append(sign);
            }
        }
        return text.toString();
    }

    private static void run(String program) throws IOException, ReflectiveOperationException {
        Files.createDirectories(MADE);
        Path source = Files.writeString(MADE.resolve("ReadmeCalls.java"), program);
        JavaCompiler javac = ToolProvider.getSystemJavaCompiler();
        int failed = javac.run(null, null, null, "-cp", System.getProperty("java.class.path"),
                "-d", MADE.toString(), source.toString());
        Check.due("the calls of README.md compile", failed, 0);
        if (failed != 0) {
            return;
        }
        URL[] made = {MADE.toUri().toURL()};
        try (URLClassLoader loader = new URLClassLoader(made, ReadmeTest.class.getClassLoader())) {
            loader.loadClass("ReadmeCalls").getMethod("main", String[].class).invoke(null, (Object) new String[0]);
        } catch (InvocationTargetException e) {
            Check.due("README.md: a call throws " + e.getCause(), false, true);
        }
    }

    /** README.md shows calls of each part of the face. */
    private static void callsOfEachPartAreShown(List<String> blocks) {
        String shown = String.join("", blocks);
        for (String call : List.of("door", "areAlike", "knock", "way", "line", "account", "append", "read", "undo",
                "snapshot", "restore")) {
            Check.due("README.md shows " + call, shown.contains("." + call + "("), true);
        }
    }

    private static void theCommandIsTheOne(String readme) throws IOException {
        String section = readme.substring(readme.indexOf("## Running the tests"));
        Check.due("the commands of README.md for the tests",
                section.lines().filter(line -> line.startsWith("    ")).toList(), List.of("    .ci/run"));
        Check.due(".ci/run can be run", Files.isExecutable(Path.of(".ci/run")), true);
        String script = Files.readString(Path.of(".ci/run"));
        Check.due(".ci/run runs the project's tests", script.contains("for test in src/test/java/*Test.java; do"), true);
        Check.due(".ci/run runs the shared tests",
                script.contains("shared=../shared/tests") && script.contains("for test in \"$shared\"/*.java; do"), true);
    }

    private static void theTestsAreNamed(String readme) throws IOException {
        Set<String> named = new TreeSet<>();
        Matcher row = Pattern.compile("(?m)^- `(\\w+)`:").matcher(readme);
        while (row.find()) {
            named.add(row.group(1));
        }
        Check.due("the tests that README.md names", named, testsThatAre());
    }

    private static Set<String> testsThatAre() throws IOException {
        try (Stream<Path> files = Files.list(TESTS)) {
            return files.map(file -> file.getFileName().toString()).filter(name -> name.endsWith("Test.java"))
                    .map(name -> name.replace(".java", "")).collect(Collectors.toCollection(TreeSet::new));
        }
    }
}
