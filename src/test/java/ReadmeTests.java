import java.lang.reflect.Field;
import java.lang.reflect.Method;
import java.net.URL;
import java.net.URLClassLoader;
import java.nio.file.Files;
import java.nio.file.Path;
import java.util.ArrayList;
import java.util.List;
import java.util.regex.Matcher;
import java.util.regex.Pattern;
import java.util.stream.Stream;
import javax.tools.ToolProvider;

/** Tries what README.md shows: its example with the answers behind each call, its texts and faults, its calls and files. */
final class ReadmeTests {
    private static final Path README = Path.of("README.md");
    private static final Path DOCUMENT = Path.of("../shared/DOC.md");
    private static final Path TESTS = Path.of("src/test/java");
    private static final Path BUILD = Path.of("build/readme");

    /** A line of the example: a name for the answer or none, the call, and the answer that is named behind it. */
    private static final Pattern CALL = Pattern.compile("( +(?:int|boolean) (\\w+) =)? *(\\S.*);\\s*// (-?\\d+|true|false)(?::.*)?");

    private static final Pattern FAULT = Pattern.compile("(?m)^\\| (\\d) \\| .* \\| `([^`]*)` \\| (\\d+) \\|$");

    private final String readme = Files.readString(README);
    private final List<String> example = block("java");
    private final List<String> shown = new ArrayList<>();
    private final List<String> due = new ArrayList<>();

    private ReadmeTests() throws Exception {
    }

    public static void main(String[] args) throws Exception {
        ReadmeTests t = new ReadmeTests();
        Suite suite = new Suite("ReadmeTests");
        suite.run("the example can be compiled as it stands", () -> compile("plain", t.example));
        suite.run("each call of the example names its answer", t::namesAll);
        List<String> got = t.answers();
        suite.run("each call of the example answers", () -> Suite.same("answers", t.due.size(), got.size()));
        for (int i = 0; i < t.due.size(); i++) {
            int call = i;
            suite.run(t.shown.get(i), () -> Suite.same("answer", t.due.get(call), call < got.size() ? got.get(call) : "none"));
        }
        suite.run("the clauses shown are read one by one", t::clauses);
        suite.run("the clauses shown are a text", () -> tellsText(String.join("\n", t.block("text"))));
        suite.run("a text for each fault", t::faults);
        suite.run("each call of the face is told", t::calls);
        suite.run("each file that is told is there", t::files);
        suite.run("each file of tests is told", t::suites);
        suite.close();
    }

    private List<String> block(String kind) {
        List<String> lines = new ArrayList<>();
        boolean inside = false;
        for (String line : readme.split("\n")) {
            if (line.startsWith("```")) inside = line.equals("```" + kind);
            else if (inside) lines.add(line);
        }
        return lines;
    }

    private static Path compile(String name, List<String> lines) throws Exception {
        Path folder = Files.createDirectories(BUILD.resolve(name));
        Path source = folder.resolve("Example.java");
        Files.write(source, lines);
        int code = ToolProvider.getSystemJavaCompiler().run(null, null, null,
            "-Xlint:all", "-cp", System.getProperty("java.class.path"), "-d", folder.toString(), source.toString());
        Suite.same("javac's exit code", 0, code);
        return folder;
    }

    /** The example once more, keeping each answer that it names; in the class's own list, as it is loaded apart. */
    private List<String> tried() {
        List<String> lines = new ArrayList<>();
        for (String line : example) {
            Matcher m = CALL.matcher(line);
            if (m.matches()) {
                shown.add(line.trim());
                due.add(m.group(4));
                if (m.group(1) != null) lines.add(line);
                lines.add("answers.add(String.valueOf(" + (m.group(1) != null ? m.group(2) : m.group(3)) + "));");
            } else {
                lines.add(line);
            }
            if (line.endsWith("class Example {")) {
                lines.add("public static final java.util.List<String> answers = new java.util.ArrayList<>();");
            }
        }
        return lines;
    }

    private List<String> answers() throws Exception {
        Path folder = compile("tried", tried());
        try (URLClassLoader loader = new URLClassLoader(new URL[] {folder.toUri().toURL()}, ReadmeTests.class.getClassLoader())) {
            Class<?> type = loader.loadClass("Example");
            Method main = type.getMethod("main", String[].class);
            main.invoke(null, (Object) new String[0]);
            Field answers = type.getField("answers");
            List<String> got = new ArrayList<>();
            for (Object answer : (List<?>) answers.get(null)) got.add((String) answer);
            return got;
        }
    }

    /** So that no call goes untried because its line is written in another way. */
    private void namesAll() {
        List<String> without = new ArrayList<>();
        boolean inMain = false;
        for (String line : example) {
            if (line.equals("    }")) inMain = false;
            boolean calls = line.contains("k.") || line.contains("(k, ");
            if (inMain && calls && !line.trim().startsWith("//") && !CALL.matcher(line).matches()) without.add(line);
            if (line.contains(" main(")) inMain = true;
        }
        Suite.same("without an answer", List.of(), without);
        Suite.same("the example has a main", true, example.stream().anyMatch(line -> line.contains(" main(")));
    }

    private static void tellsText(String text) {
        KneeOaths k = new KneeOaths();
        Suite.same(text, 0, Words.tell(k, text));
        Suite.same("fault of " + text, 0, k.fault(0));
    }

    private void clauses() {
        List<String> clauses = block("text");
        Suite.same("clauses", 11, clauses.size());
        for (String clause : clauses) tellsText(clause);
    }

    private void faults() {
        Matcher m = FAULT.matcher(readme);
        for (int fault = 1; fault <= 7; fault++) {
            Suite.same("a row of fault " + fault, true, m.find());
            Suite.same("its number", fault, Integer.parseInt(m.group(1)));
            KneeOaths k = new KneeOaths();
            Suite.same(m.group(2), -1, Words.tell(k, m.group(2)));
            Suite.same("fault of " + m.group(2), fault, k.fault(0));
            Suite.same("place in " + m.group(2), Integer.parseInt(m.group(3)), k.fault(1));
        }
    }

    /** With its numbers by the names that the document gives them. */
    private void calls() throws Exception {
        List<String> missing = new ArrayList<>();
        int calls = 0;
        Matcher m = Pattern.compile("(?m)^    public (?:int|boolean) (\\w+)\\((.*)\\);$").matcher(Files.readString(DOCUMENT));
        while (m.find()) {
            calls++;
            String call = m.group(1) + "(" + m.group(2).replaceAll("(int|boolean) ", "") + ")";
            if (!readme.contains("`" + call + "`")) missing.add(call);
        }
        Suite.same("not told", List.of(), missing);
        Suite.same("calls", 48, calls);
    }

    private void files() {
        List<String> missing = new ArrayList<>();
        int files = 0;
        Matcher m = Pattern.compile("`([\\w.]+(?:/[\\w.]+)+)`").matcher(readme);
        while (m.find()) {
            files++;
            if (!Files.exists(Path.of(m.group(1)))) missing.add(m.group(1));
        }
        Suite.same("not there", List.of(), missing);
        Suite.same("some are told", true, files > 0);
        Suite.same(".ci/run is told", true, block("").contains(".ci/run"));
        Suite.same(".ci/run can be run", true, Files.isExecutable(Path.of(".ci/run")));
    }

    private void suites() throws Exception {
        List<String> missing = new ArrayList<>();
        try (Stream<Path> files = Files.list(TESTS)) {
            for (Path file : files.toList()) {
                String name = file.getFileName().toString().replace(".java", "");
                if (name.endsWith("Tests") && !readme.contains(name)) missing.add(name);
            }
        }
        Suite.same("not told", List.of(), missing);
    }
}
