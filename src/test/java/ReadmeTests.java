import java.io.File;
import java.io.IOException;
import java.lang.reflect.Method;
import java.lang.reflect.Modifier;
import java.nio.file.Files;
import java.nio.file.Path;
import java.util.ArrayList;
import java.util.Arrays;
import java.util.List;
import java.util.TreeSet;
import java.util.regex.Matcher;
import java.util.regex.Pattern;
import java.util.stream.Stream;

/**
 * README.md is true: its commands work as they stand, the calls that it shows compile and answer as
 * it says, and the command that it names for the tests is the one that runs them all.
 */
public final class ReadmeTests {
    /** A call that stands alone in its line; what it answers stands in the comment, before the first comma. */
    private static final Pattern CALL = Pattern.compile("(monitor\\.(\\w+)\\(.*\\));\\s+// (throws )?([^,]+)(, .*)?");
    private static final Checks CHECKS = new Checks();

    private final Path root = Path.of(System.getProperty("root", "."));
    private final TreeSet<String> shown = new TreeSet<>();
    private int calls;

    public static void main(String[] args) throws IOException, InterruptedException {
        new ReadmeTests().test();
        CHECKS.finish();
    }

    private void test() throws IOException, InterruptedException {
        List<String> lines = Files.readAllLines(root.resolve("README.md"));
        List<String> use = section(lines, "Use");
        List<String> tests = section(lines, "Tests");
        use(program(use), commands(use));
        everyMethodIsShown();
        testCommand(commands(tests));
        testNames(tests);
    }

    private static List<String> section(List<String> lines, String name) {
        List<String> found = new ArrayList<>();
        boolean inside = false;
        for (String line : lines) {
            inside = line.startsWith("## ") ? line.equals("## " + name) : inside;
            if (inside) {
                found.add(line);
            }
        }
        CHECKS.dueText("the section " + name, found.isEmpty() ? "is not there" : "is there", "is there");
        return found;
    }

    /** The lines that are indented by four spaces, outside of the Java code. */
    private static List<String> commands(List<String> lines) {
        List<String> found = new ArrayList<>();
        boolean code = false;
        for (String line : lines) {
            code = line.startsWith("```") != code;
            if (!code && line.startsWith("    ")) {
                found.add(line.substring(4));
            }
        }
        return found;
    }

    // ---- the use of the class

    /** A class Yours of the Java code: once as it stands, once with a look at each answer. */
    private String program(List<String> lines) {
        StringBuilder asShown = new StringBuilder();
        StringBuilder looking = new StringBuilder();
        boolean code = false;
        for (String line : lines) {
            if (line.startsWith("```")) {
                code = !code;
                asShown.append(code ? "{\n" : "}\n");
                looking.append(code ? "{\n" : "}\n");
            } else if (code) {
                asShown.append(line).append('\n');
                looking.append(looking(line)).append('\n');
            }
        }
        return "public final class Yours {\n"
                + "interface Call { void make(); }\n"
                + "static int wrong;\n"
                + "static final int NONE = OccupancyMonitor.NONE;\n"
                + "static void due(String call, Object got, Object want) {\n"
                + "if (!got.equals(want)) { wrong++; System.out.println(call + \" answered \" + got); }\n}\n"
                + "static void dueThrows(String call, Class<?> want, Call made) {\n"
                + "Object got = \"no exception\";\n"
                + "try { made.make(); } catch (RuntimeException thrown) { got = thrown.getClass(); }\n"
                + "due(call, got, want);\n}\n"
                + "static void asShown() {\n" + asShown + "}\n"
                + "public static void main(String[] args) {\n" + looking
                + "System.exit(wrong == 0 ? 0 : 1);\n}\n}\n";
    }

    private String looking(String line) {
        if (!line.startsWith("monitor.")) {
            return line;
        }
        Matcher call = CALL.matcher(line);
        CHECKS.dueText(line, call.matches() ? "tells its answer" : "tells no answer", "tells its answer");
        if (!call.matches()) {
            return line;
        }
        calls++;
        shown.add(call.group(2));
        String name = "\"" + line.replace("\\", "\\\\").replace("\"", "\\\"") + "\", ";
        String answer = call.group(4);
        if (call.group(3) != null) {
            return "dueThrows(" + name + answer + ".class, () -> " + call.group(1) + ");";
        }
        boolean number = answer.matches("-?[0-9]+");
        boolean isLong = call.group(2).equals("digest");
        return "due(" + name + call.group(1) + ", " + answer + (number && isLong ? "L" : "") + ");";
    }

    private void use(String program, List<String> commands) throws IOException, InterruptedException {
        CHECKS.due("the calls that are shown, at least one", Math.min(calls, 1), 1);
        CHECKS.due("the commands that are shown, to compile and to run", commands.size(), 2);
        Path place = Files.createTempDirectory("readme");
        Path main = Path.of("src/main/java/OccupancyMonitor.java");
        Files.createDirectories(place.resolve(main).getParent());
        Files.copy(root.resolve(main), place.resolve(main));
        Files.writeString(place.resolve("Yours.java"), program);
        for (String command : commands) {
            CHECKS.due(command + ", exit code", exitCode(place, command), 0);
        }
        delete(place.toFile());
    }

    private static int exitCode(Path place, String command) throws IOException, InterruptedException {
        return new ProcessBuilder("sh", "-c", command).directory(place.toFile()).inheritIO().start().waitFor();
    }

    private static void delete(File file) {
        File[] inside = file.listFiles();
        for (File each : inside == null ? new File[0] : inside) {
            delete(each);
        }
        file.delete();
    }

    private void everyMethodIsShown() {
        TreeSet<String> names = new TreeSet<>();
        for (Method method : OccupancyMonitor.class.getDeclaredMethods()) {
            if (Modifier.isPublic(method.getModifiers())) {
                names.add(method.getName());
            }
        }
        CHECKS.dueText("the methods that are shown", shown.toString(), names.toString());
    }

    // ---- the tests

    /** .ci/run tells its own name, and the names of the tests that it runs. */
    private void testCommand(List<String> commands) {
        String running = System.getProperty("command", ".ci/run");
        CHECKS.dueText("the command for the tests", commands.toString(), List.of(running).toString());
        boolean can = Files.isExecutable(root.resolve(running));
        CHECKS.dueText(running, can ? "can be executed" : "cannot be executed", "can be executed");
    }

    private void testNames(List<String> lines) throws IOException {
        TreeSet<String> listed = new TreeSet<>();
        for (String line : lines) {
            Matcher row = Pattern.compile("\\| (\\w+Tests) \\| .+ \\|").matcher(line);
            if (row.matches()) {
                listed.add(row.group(1));
            }
        }
        TreeSet<String> present = programs(root.resolve("src/test/java"));
        CHECKS.dueText("the tests that are listed", listed.toString(), present.toString());
        present.addAll(programs(root.resolve("../shared/tests")));
        String run = System.getProperty("tests");
        if (run == null) {
            System.out.println("not started by .ci/run: which tests it runs is not looked at");
            return;
        }
        TreeSet<String> names = new TreeSet<>(Arrays.asList(run.trim().split(" ")));
        CHECKS.dueText("the tests that are run", names.toString(), present.toString());
    }

    /** The Java files there that have a main method. */
    private static TreeSet<String> programs(Path place) throws IOException {
        TreeSet<String> found = new TreeSet<>();
        try (Stream<Path> files = Files.list(place)) {
            for (Path file : files.filter(each -> each.toString().endsWith(".java")).toList()) {
                if (Files.readString(file).contains(" static void main(String[] ")) {
                    found.add(file.getFileName().toString().replace(".java", ""));
                }
            }
        }
        return found;
    }
}
