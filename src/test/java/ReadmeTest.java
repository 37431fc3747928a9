import com.sun.management.ThreadMXBean;
import java.io.IOException;
import java.lang.management.ManagementFactory;
import java.net.URL;
import java.net.URLClassLoader;
import java.nio.file.Files;
import java.nio.file.Path;
import java.util.ArrayList;
import java.util.Comparator;
import java.util.List;
import java.util.Set;
import java.util.TreeSet;
import java.util.regex.Matcher;
import java.util.regex.Pattern;
import java.util.stream.Stream;
import javax.tools.ToolProvider;

/**
 * README.md, which is read from the directory that .ci/run goes to: its program is compiled and run with each
 * answer that stands behind a call compared, and its tables are compared with the class and with the tests.
 */
public final class ReadmeTest {
    private static final Check CHECK = new Check();
    private static final Path README = Path.of("README.md");
    private static final Path CLASS = Path.of("src/main/java/TraceProver.java");
    private static final Path TESTS = Path.of("src/test/java");
    private static final Pattern ANSWERED = Pattern.compile("(\\s*)(x\\.\\w+\\(.*?\\));\\s*// (true|false|BAD|NONE|FULL|-?\\d+)\\b.*");
    private static final Pattern HEAD = Pattern.compile("    public ((?:\\w+ )?\\w+\\([^)]*\\)) \\{");
    private static final Pattern TABLE_ROW = Pattern.compile("\\| `([^`]+)` \\|.*");

    public static void main(String[] args) throws Exception {
        List<String> lines = Files.readAllLines(README);
        answersOfTheProgram(lines);
        programUsesTheWholeFace(lines);
        tableOfCalls(lines);
        constantsInWords(lines);
        tableOfTests(lines);
        commandOfTheTests(lines);
        noCallMakesAnObject();
        CHECK.end();
    }

    /** Called by the program that answersOfTheProgram writes. */
    public static void answered(String call, Object got, String want) {
        CHECK.due("README's program: " + call, number(String.valueOf(got)), number(want));
    }

    private static long number(String answer) {
        return switch (answer) {
            case "BAD" -> TraceProver.BAD;
            case "NONE" -> TraceProver.NONE;
            case "FULL" -> TraceProver.FULL;
            case "true" -> 1;
            case "false" -> 0;
            default -> Long.parseLong(answer);
        };
    }

    private static List<String> program(List<String> lines) {
        int first = lines.indexOf("```java") + 1;
        List<String> behind = lines.subList(first, lines.size());
        return behind.subList(0, behind.indexOf("```"));
    }

    private static void answersOfTheProgram(List<String> lines) throws Exception {
        List<String> source = new ArrayList<>();
        source.add("public final class Readme { public static void run() {");
        int answers = 0;
        for (String line : program(lines)) {
            Matcher call = ANSWERED.matcher(line);
            if (call.matches()) {
                answers++;
                String text = call.group(2);
                source.add(call.group(1) + "ReadmeTest.answered(\"" + text + "\", " + text + ", \"" + call.group(3) + "\");");
            } else {
                source.add(line);
            }
        }
        source.add("} }");
        CHECK.due("README's program tells many answers", answers > 30, true);
        compileAndRun(source);
    }

    private static void compileAndRun(List<String> source) throws Exception {
        Path room = Files.createTempDirectory("readme");
        try {
            Path file = room.resolve("Readme.java");
            Files.write(file, source);
            String classes = System.getProperty("java.class.path");
            int code = ToolProvider.getSystemJavaCompiler().run(null, null, null, "-cp", classes, "-d", room.toString(), file.toString());
            CHECK.due("README's program compiles: exit code", code, 0);
            if (code == 0) {
                try (URLClassLoader loader = new URLClassLoader(new URL[] {room.toUri().toURL()}, ReadmeTest.class.getClassLoader())) {
                    loader.loadClass("Readme").getMethod("run").invoke(null);
                }
            }
        } finally {
            drop(room);
        }
    }

    private static void drop(Path room) throws IOException {
        try (Stream<Path> all = Files.walk(room)) {
            for (Path path : all.sorted(Comparator.reverseOrder()).toList()) {
                Files.delete(path);
            }
        }
    }

    /** The constructor and the methods as they stand in the class, with the names of their parameters. */
    private static Set<String> face() throws IOException {
        Set<String> face = new TreeSet<>();
        for (String line : Files.readAllLines(CLASS)) {
            Matcher head = HEAD.matcher(line);
            if (head.matches()) {
                face.add(head.group(1));
            }
        }
        return face;
    }

    private static void programUsesTheWholeFace(List<String> lines) throws IOException {
        String program = String.join("\n", program(lines));
        for (String head : face()) {
            String name = head.substring(head.indexOf(' ') + 1, head.indexOf('('));
            boolean made = name.equals("TraceProver") && program.contains("new TraceProver()");
            CHECK.due("README's program uses " + head, made || program.contains("x." + name + "("), true);
        }
    }

    /** The first cells of the table whose head begins so. */
    private static List<String> firstCells(List<String> lines, String head) {
        List<String> cells = new ArrayList<>();
        boolean within = false;
        for (String line : lines) {
            Matcher row = TABLE_ROW.matcher(line);
            if (line.startsWith(head)) {
                within = true;
            } else if (within && row.matches()) {
                cells.add(row.group(1));
            } else if (!line.startsWith("|--")) {
                within = false;
            }
        }
        return cells;
    }

    private static void tableOfCalls(List<String> lines) throws IOException {
        List<String> cells = firstCells(lines, "| call |");
        Set<String> told = new TreeSet<>(cells);
        CHECK.due("README's calls are " + told + ", the face is " + face() + "; they are the same", told.equals(face()), true);
        CHECK.due("the calls in README's table", cells.size(), 13);
    }

    private static void constantsInWords(List<String> lines) {
        String text = String.join("\n", lines);
        CHECK.due("README tells BAD", text.contains("`BAD` (" + TraceProver.BAD + ")"), true);
        CHECK.due("README tells NONE", text.contains("`NONE` (" + TraceProver.NONE + ")"), true);
        CHECK.due("README tells FULL", text.contains("`FULL` (" + TraceProver.FULL + ")"), true);
        for (int code = 1; code <= 9; code++) {
            CHECK.due("README tells code " + code, text.contains("\n| " + code + " | "), true);
        }
    }

    private static void tableOfTests(List<String> lines) throws IOException {
        Set<String> there = new TreeSet<>();
        try (Stream<Path> files = Files.list(TESTS)) {
            files.map(file -> file.getFileName().toString())
                .filter(name -> name.endsWith("Test.java"))
                .forEach(name -> there.add(name.substring(0, name.length() - ".java".length())));
        }
        Set<String> told = new TreeSet<>(firstCells(lines, "| test |"));
        CHECK.due("README's tests are " + told + ", the files are " + there + "; they are the same", told.equals(there), true);
    }

    private static void commandOfTheTests(List<String> lines) {
        CHECK.due("README tells .ci/run", lines.contains("    .ci/run"), true);
        CHECK.due(".ci/run can be run", Files.isExecutable(Path.of(".ci/run")), true);
    }

    /** All calls of one run live in one room. The least of some rounds counts: the first ones load classes. */
    private static void noCallMakesAnObject() {
        ThreadMXBean threads = (ThreadMXBean) ManagementFactory.getThreadMXBean();
        long least = Long.MAX_VALUE;
        for (int round = 0; round < 5; round++) {
            TraceProver x = Samples.fullRules();
            long before = threads.getCurrentThreadAllocatedBytes();
            everyCall(x);
            least = Math.min(least, threads.getCurrentThreadAllocatedBytes() - before);
        }
        CHECK.due("bytes that the calls of a run take", least, 0);
    }

    private static void everyCall(TraceProver x) {
        for (int n = 0; n < 20; n++) {
            x.prove();
            x.verify();
            x.position(n % 3);
            x.proof(n);
            x.alter(5, n);
            x.verify();
            x.at(n % 2, n);
            x.cell(n % 2, n % 8);
            x.set(1, 6, n % 2 == 0 ? 9 : 8);
            x.wrong();
        }
        x.clear();
        for (int n = 0; n < 8; n++) {
            x.term(0, 0, 4, 4);
            x.term(1, 0, 4, 4);
            x.bound(0, 0, 12288);
        }
    }
}
