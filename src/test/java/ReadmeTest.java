import java.io.IOException;
import java.lang.reflect.Method;
import java.lang.reflect.Modifier;
import java.net.URL;
import java.net.URLClassLoader;
import java.nio.file.Files;
import java.nio.file.Path;
import java.util.ArrayList;
import java.util.Comparator;
import java.util.List;
import java.util.regex.Matcher;
import java.util.regex.Pattern;
import java.util.stream.Stream;
import javax.tools.ToolProvider;

/** What README.md shows is true: its calls answer as it says, and its commands run. */
public final class ReadmeTest {
    private static final Check CHECK = new Check();
    private static final Pattern ASKED = Pattern.compile(
        "(\\S.*);\\s+// (throws \\w+|\"[^\"]*\"|-?\\d+(?:\\.\\d+)?)(?:, .*)?");
    private static final String MADE = "LendingPool pool = new LendingPool();";

    private final List<String> helpers = new ArrayList<>();
    private final List<String> steps = new ArrayList<>();
    private final List<String> commands = new ArrayList<>();
    private final String text;

    private ReadmeTest() throws IOException {
        text = Files.readString(Path.of("README.md"));
    }

    public static void main(String[] args) throws Exception {
        ReadmeTest test = new ReadmeTest();
        test.readBlocks();
        Path room = Files.createTempDirectory("readme");
        try {
            test.runExample(room);
            test.runCommands(room);
        } finally {
            remove(room);
        }
        test.everyMethodIsShown();
        test.everyTestIsNamed();
        CHECK.end();
    }

    private void readBlocks() {
        Matcher block = Pattern.compile("(?ms)^```(\\w*)\n(.*?)^```$").matcher(text);
        while (block.find()) {
            int line = 1 + (int) text.substring(0, block.start(2)).chars().filter(c -> c == '\n').count();
            if (block.group(1).equals("sh")) {
                commands.add(block.group(2));
            } else if (block.group(2).startsWith("static ")) {
                helpers.add(block.group(2));
            } else {
                readSteps(block.group(2), line);
            }
        }
    }

    /** Each line makes the object or asks it; a call without its answer would be shown and not checked. */
    private void readSteps(String block, int firstLine) {
        int at = firstLine;
        for (String line : block.split("\n")) {
            Matcher asked = ASKED.matcher(line);
            if (line.equals(MADE)) {
                steps.add(line);
            } else if (asked.matches()) {
                steps.add(step("README.md:" + at + " " + asked.group(1), asked.group(1), asked.group(2)));
            } else {
                CHECK.due("README.md:" + at + " " + line, "no answer", "an answer");
            }
            at++;
        }
    }

    private static String step(String name, String call, String answer) {
        String due = answer.startsWith("throws ") ? quoted(answer) : "String.valueOf(" + answer + ")";
        return "try { got = String.valueOf(" + counting(call) + "); }"
            + " catch (RuntimeException e) { got = \"throws \" + e.getClass().getSimpleName(); }\n"
            + "all.add(new String[] {" + quoted(name) + ", got, " + due + "});";
    }

    private static String quoted(String words) {
        return '"' + words.replace("\\", "\\\\").replace("\"", "\\\"") + '"';
    }

    /** No object is asked more than 512 times, the one of the example neither. */
    private static String counting(String code) {
        return code.replaceAll("\\bpool\\.(\\w+\\()", "counted(pool).$1");
    }

    private void runExample(Path room) throws Exception {
        Path source = room.resolve("Example.java");
        Files.writeString(source, "public final class Example {\n" + counting(String.join("\n", helpers))
            + "static int calls;\nstatic LendingPool counted(LendingPool pool) { calls++; return pool; }\n"
            + "public static java.util.List<String[]> run() {\n"
            + "java.util.List<String[]> all = new java.util.ArrayList<>();\nString got;\n"
            + String.join("\n", steps) + "\n"
            + "all.add(new String[] {\"at most 512 calls, not \" + calls, String.valueOf(calls <= 512), \"true\"});\n"
            + "return all;\n}\n}\n");
        int compiled = ToolProvider.getSystemJavaCompiler().run(null, null, null, "-d", room.toString(),
            "-cp", System.getProperty("java.class.path"), source.toString());
        CHECK.due("javac of the example of README.md", compiled, 0);
        if (compiled != 0) {
            return;
        }
        try (URLClassLoader loader = new URLClassLoader(new URL[] {room.toUri().toURL()})) {
            List<?> all = (List<?>) loader.loadClass("Example").getMethod("run").invoke(null);
            for (Object one : all) {
                String[] told = (String[]) one;
                CHECK.due(told[0], told[1], told[2]);
            }
            CHECK.due("README.md has an example", all.size() > 50, true);
        }
    }

    /** In a directory that looks like this one, so that what they write stays out of the checkout. */
    private void runCommands(Path room) throws Exception {
        Path here = Files.createDirectory(room.resolve("main"));
        Files.createSymbolicLink(here.resolve("src"), Path.of("src").toRealPath());
        Files.createSymbolicLink(room.resolve("shared"), Path.of("../shared").toRealPath());
        CHECK.due("README.md has commands", commands.isEmpty(), false);
        for (String block : commands) {
            Process shell = new ProcessBuilder("sh", "-e", "-c", block).directory(here.toFile())
                .redirectErrorStream(true).start();
            String told = new String(shell.getInputStream().readAllBytes());
            CHECK.due(block + told, shell.waitFor(), 0);
        }
    }

    private void everyMethodIsShown() {
        String shown = String.join("\n", helpers) + String.join("\n", steps);
        for (Method m : LendingPool.class.getDeclaredMethods()) {
            if (Modifier.isPublic(m.getModifiers())) {
                CHECK.due("README.md shows " + m.getName(), shown.contains("pool." + m.getName() + "("), true);
            }
        }
    }

    private void everyTestIsNamed() throws IOException {
        try (Stream<Path> files = Files.list(Path.of("src/test/java"))) {
            files.map(f -> f.getFileName().toString()).filter(f -> f.endsWith("Test.java")).forEach(f ->
                CHECK.due("README.md names " + f, text.contains("`" + f.replace(".java", "") + "`"), true));
        }
    }

    private static void remove(Path room) throws IOException {
        try (Stream<Path> all = Files.walk(room)) {
            for (Path one : all.sorted(Comparator.reverseOrder()).toList()) {
                Files.delete(one);
            }
        }
    }
}
