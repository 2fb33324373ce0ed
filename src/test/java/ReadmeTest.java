import java.io.IOException;
import java.io.UncheckedIOException;
import java.lang.reflect.Method;
import java.lang.reflect.Modifier;
import java.net.URL;
import java.net.URLClassLoader;
import java.nio.file.Files;
import java.nio.file.Path;
import java.util.ArrayList;
import java.util.Comparator;
import java.util.List;
import java.util.Set;
import java.util.TreeSet;
import java.util.regex.Matcher;
import java.util.regex.Pattern;
import java.util.stream.Stream;
import javax.tools.ToolProvider;

/** README.md is right: the calls that it shows are compiled and run from its own lines. */
public final class ReadmeTest {
    private static final Expect EXPECT = new Expect();
    private static final Path README = Path.of("README.md");
    private static final Path OWN_TESTS = Path.of("src", "test", "java");
    private static final String NEW_DESK = "HarmoniumDesk desk = new HarmoniumDesk();";
    private static final String COMPILE_ALONE = "javac -d out ";
    // [type name = ]desk.call(..);  // answer[: remark], or // throws Exception[: remark]
    private static final Pattern SHOWN = Pattern.compile(
            "((\\w+) (\\w+) = )?(desk\\.(\\w+)\\([^)]*\\));\\s+// (throws \\w+|[\\w.-]+)(: .*)?");
    private static final Pattern NAMED_TEST = Pattern.compile("`(\\w+Test)`");

    public static void main(String[] args) throws Exception {
        List<String> page = Files.readAllLines(README);
        List<Matcher> shown = shownCalls(javaLines(page));
        everyCallIsShown(shown);
        Path out = Files.createTempDirectory("readme");
        try {
            compileAlone(page, out);
            callsAnswerAsShown(shown, out);
        } finally {
            delete(out);
        }
        testsAreRunAsTold(page);
        everyTestIsNamed(page);
        EXPECT.finish();
    }

    private static List<String> javaLines(List<String> page) {
        List<String> lines = new ArrayList<>();
        boolean inside = false;
        for (String line : page) {
            if (line.startsWith("```")) {
                inside = line.equals("```java");
            } else if (inside) {
                lines.add(line);
            }
        }
        return lines;
    }

    private static List<Matcher> shownCalls(List<String> lines) {
        List<Matcher> shown = new ArrayList<>();
        EXPECT.holds("the first line is " + NEW_DESK, !lines.isEmpty() && lines.get(0).equals(NEW_DESK));
        for (String line : lines.subList(Math.min(1, lines.size()), lines.size())) {
            Matcher call = SHOWN.matcher(line);
            boolean readable = call.matches();
            EXPECT.holds("README.md tells what this answers: " + line, readable);
            if (readable) {
                shown.add(call);
            }
        }
        return shown;
    }

    private static void everyCallIsShown(List<Matcher> shown) {
        Set<String> names = new TreeSet<>();
        for (Matcher call : shown) {
            names.add(call.group(5));
        }
        for (Method method : HarmoniumDesk.class.getDeclaredMethods()) {
            if (Modifier.isPublic(method.getModifiers())) {
                EXPECT.holds("README.md shows " + method.getName(), names.contains(method.getName()));
            }
        }
    }

    /** As README.md tells it, but for the directory. */
    private static void compileAlone(List<String> page, Path out) {
        List<String> commands = commandsUnder(page, "## Use");
        EXPECT.holds("one command compiles the class: " + commands,
                commands.size() == 1 && commands.get(0).startsWith(COMPILE_ALONE));
        for (String command : commands) {
            compile(out, command.substring(Math.min(COMPILE_ALONE.length(), command.length())));
        }
    }

    private static void callsAnswerAsShown(List<Matcher> shown, Path out) throws Exception {
        Path use = out.resolve("ReadmeUse.java");
        Files.writeString(use, programOf(shown));
        compile(out, use.toString());
        String[] outcomes = outcomes(out);
        EXPECT.answers("calls that ran", shown.size(), () -> outcomes.length);
        for (int i = 0; i < Math.min(shown.size(), outcomes.length); i++) {
            Matcher call = shown.get(i);
            EXPECT.says("README.md: " + call.group(4), call.group(6), outcomes[i]);
        }
    }

    private static String programOf(List<Matcher> shown) {
        StringBuilder text = new StringBuilder();
        text.append("public final class ReadmeUse {\npublic static String[] outcomes() {\n");
        text.append("java.util.List<String> outcomes = new java.util.ArrayList<>();\n").append(NEW_DESK).append('\n');
        for (Matcher call : shown) {
            text.append(call.group(1) == null ? caught(call.group(4)) : kept(call)).append('\n');
        }
        return text.append("return outcomes.toArray(new String[0]);\n}\n}\n").toString();
    }

    private static String kept(Matcher call) {
        return call.group(1) + call.group(4) + "; outcomes.add(String.valueOf(" + call.group(3) + "));";
    }

    private static String caught(String call) {
        return "try { outcomes.add(String.valueOf(" + call + ")); } catch (RuntimeException e) {"
                + " outcomes.add(\"throws \" + e.getClass().getSimpleName()); }";
    }

    private static String[] outcomes(Path out) throws Exception {
        URL[] places = {out.toUri().toURL()};
        // Without the tests' own classes: the class that was compiled as README.md tells it is the one asked.
        try (URLClassLoader loader = new URLClassLoader(places, ClassLoader.getPlatformClassLoader())) {
            return (String[]) loader.loadClass("ReadmeUse").getMethod("outcomes").invoke(null);
        }
    }

    private static void compile(Path out, String file) {
        EXPECT.answers("javac of " + file, 0, () -> ToolProvider.getSystemJavaCompiler().run(
                null, null, null, "-cp", out.toString(), "-d", out.toString(), file));
    }

    private static void testsAreRunAsTold(List<String> page) {
        List<String> commands = commandsUnder(page, "## Tests");
        EXPECT.holds("one command runs the tests: " + commands, commands.equals(List.of(".ci/run")));
        EXPECT.holds(".ci/run can be run", Files.isExecutable(Path.of(".ci", "run")));
    }

    private static void everyTestIsNamed(List<String> page) throws IOException {
        Set<String> named = new TreeSet<>();
        for (String line : page) {
            Matcher test = NAMED_TEST.matcher(line);
            while (test.find()) {
                named.add(test.group(1));
            }
        }
        Set<String> there = new TreeSet<>();
        try (Stream<Path> files = Files.list(OWN_TESTS)) {
            files.map(file -> file.getFileName().toString()).filter(name -> name.endsWith("Test.java"))
                    .forEach(name -> there.add(name.substring(0, name.length() - ".java".length())));
        }
        EXPECT.holds("README.md names " + named + ", the tests are " + there, named.equals(there));
    }

    /** The lines that stand four signs in, from this heading to the next one of its kind. */
    private static List<String> commandsUnder(List<String> page, String heading) {
        List<String> commands = new ArrayList<>();
        boolean inside = false;
        for (String line : page) {
            if (line.startsWith("## ")) {
                inside = line.equals(heading);
            } else if (inside && line.startsWith("    ")) {
                commands.add(line.substring(4));
            }
        }
        return commands;
    }

    private static void delete(Path directory) throws IOException {
        try (Stream<Path> paths = Files.walk(directory)) {
            paths.sorted(Comparator.reverseOrder()).forEach(ReadmeTest::deleteOne);
        }
    }

    private static void deleteOne(Path path) {
        try {
            Files.delete(path);
        } catch (IOException e) {
            throw new UncheckedIOException(e);
        }
    }
}
