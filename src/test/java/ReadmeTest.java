import java.io.IOException;
import java.lang.reflect.InvocationTargetException;
import java.net.URL;
import java.net.URLClassLoader;
import java.nio.file.Files;
import java.nio.file.Path;
import java.util.ArrayList;
import java.util.List;
import java.util.Set;
import java.util.TreeSet;
import java.util.regex.MatchResult;
import java.util.regex.Pattern;
import java.util.stream.Collectors;
import java.util.stream.Stream;
import javax.tools.ToolProvider;

/** What README.md shows holds: its examples are compiled and run, its tables are held against the document. */
final class ReadmeTest {
    private static final Pattern EXAMPLE = Pattern.compile("(?ms)^```java\n(.*?)^```");
    /** A call, its answer (or what it throws), and perhaps words on it. */
    private static final Pattern ANSWERED =
            Pattern.compile("(?m)^(\\w+\\.(\\w+)\\(.*\\)); *// (throws \\w+|-?\\d+(?:\\.\\d+)?)(?:: .+)?$");
    private static final Pattern FACE_CALL = Pattern.compile("(?m)^    public \\w+ (\\w+)\\((.*?)\\)");
    private static final Pattern GROUP = Pattern.compile("Ahead of the calls (.*) the interface says: ---- (.*)\\.");
    private static final Pattern CALL_ROW = Pattern.compile("(?m)^\\| `(\\w+\\([\\w, ]*\\))`( \\*)? \\|");
    private static final Pattern ARGUMENT = Pattern.compile("(?m)^- `(\\w+)`: (.*)$");
    private static final Pattern WORD = Pattern.compile("`(\\w+)`");

    private final String readme;
    private final String document;

    private ReadmeTest(String readme, String document) {
        this.readme = readme;
        this.document = document;
    }

    /** The example is compiled in the build folder, which is there. */
    static void run(Path root, Path document, Path build) throws IOException {
        Check.begin("README.md");
        ReadmeTest test = new ReadmeTest(Files.readString(root.resolve("README.md")), Files.readString(document));
        test.examples(build);
        test.calls();
        test.arguments();
        test.tests(root);
        Check.begin("");
    }

    private void examples(Path build) throws IOException {
        String code = groups(EXAMPLE, readme).stream().map(m -> m.group(1)).collect(Collectors.joining());
        List<MatchResult> due = groups(ANSWERED, code);
        Check.same("comments that tell an answer", groups(Pattern.compile("//"), code).size(), due.size());
        Set<String> shown = due.stream().map(m -> m.group(2)).collect(Collectors.toSet());
        for (MatchResult call : groups(FACE_CALL, document)) {
            Check.holds("an example shows an answer of " + call.group(1), shown.contains(call.group(1)));
        }
        List<String> got = answers(code, build);
        Check.same("the answers", due.size(), got.size());
        for (int i = 0; i < Math.min(due.size(), got.size()); i++) {
            String told = due.get(i).group(3);
            Check.holds(due.get(i).group(1) + " answered " + got.get(i) + ", told is " + told, told.equals(got.get(i)));
        }
    }

    private static List<String> answers(String code, Path build) throws IOException {
        String kept = ANSWERED.matcher(code).replaceAll(
                "try { answers.add(String.valueOf($1)); } catch (RuntimeException e) {"
                        + " answers.add(\"throws \" + e.getClass().getSimpleName()); }");
        Path file = build.resolve("ReadmeExample.java");
        Files.writeString(file, "public final class ReadmeExample {\n"
                + "public static void run(java.util.List<String> answers) {\n" + kept + "}\n}\n");
        List<String> answers = new ArrayList<>();
        int failed = ToolProvider.getSystemJavaCompiler().run(null, null, null, "-proc:none",
                "-cp", System.getProperty("java.class.path"), "-d", build.toString(), file.toString());
        Check.same("what javac answers to the examples", 0, failed);
        if (failed == 0) {
            runExample(build, answers);
        }
        return answers;
    }

    private static void runExample(Path build, List<String> answers) throws IOException {
        URL[] places = {build.toUri().toURL()};
        try (URLClassLoader loader = new URLClassLoader(places, ReadmeTest.class.getClassLoader())) {
            loader.loadClass("ReadmeExample").getMethod("run", List.class).invoke(null, answers);
        } catch (InvocationTargetException e) {
            Check.holds("the examples go through; but " + e.getCause(), false);
        } catch (ReflectiveOperationException e) {
            Check.holds("the examples can be run; but " + e, false);
        }
    }

    /** Each call stands, with its arguments, in the table of its group, with a star if it is undoable. */
    private void calls() {
        TreeSet<String> due = new TreeSet<>();
        for (MatchResult group : groups(GROUP, document)) {
            for (MatchResult call : groups(WORD, group.group(1))) {
                String star = chapter(document, "## Promise \\d+: " + call.group(1)).contains(" Undoable") ? " *" : "";
                due.add(group.group(2) + ": " + signature(call.group(1)) + star);
            }
        }
        Check.same("the calls of the document", groups(FACE_CALL, document).size(), due.size());
        TreeSet<String> told = new TreeSet<>();
        for (String group : List.of("patterns", "playing", "what if", "text", "state")) {
            for (MatchResult row : groups(CALL_ROW, chapter(readme, "### " + group))) {
                told.add(group + ": " + row.group(1) + (row.group(2) == null ? "" : row.group(2)));
            }
        }
        alike("the tables of the calls have", due, told);
    }

    private String signature(String name) {
        for (MatchResult call : groups(FACE_CALL, document)) {
            if (call.group(1).equals(name)) {
                return name + "(" + call.group(2).replace("int ", "") + ")";
            }
        }
        return name;
    }

    /** What the document says of an argument stands in the row of the argument, for "what" in the row of the call. */
    private void arguments() {
        String table = chapter(readme, "### Arguments");
        for (MatchResult call : groups(FACE_CALL, document)) {
            for (MatchResult argument : groups(ARGUMENT, chapter(document, "## Promise \\d+: " + call.group(1)))) {
                boolean isWhat = argument.group(1).equals("what");
                String begin = "| `" + (isWhat ? call.group(1) : argument.group(1)) + "` | ";
                boolean told = table.lines().anyMatch(s -> s.startsWith(begin) && s.contains(argument.group(2)));
                Check.holds(begin + "says, for " + call.group(1) + ": " + argument.group(2), told);
            }
        }
    }

    private void tests(Path root) throws IOException {
        String chapter = chapter(readme, "## Tests");
        Check.holds("the command stands there", chapter.contains("```\n.ci/run\n```"));
        Check.holds("the command can be run", Files.isExecutable(root.resolve(".ci/run")));
        TreeSet<String> told = new TreeSet<>();
        String files = chapter.substring(Math.max(0, chapter.indexOf("| file |")));
        groups(WORD, files).forEach(m -> told.add(m.group(1)));
        try (Stream<Path> there = Files.list(root.resolve("src/test/java"))) {
            TreeSet<String> due = there.map(p -> p.getFileName().toString().replace(".java", ""))
                    .collect(Collectors.toCollection(TreeSet::new));
            alike("the files of the tests are", due, told);
        }
    }

    private static void alike(String what, Set<String> due, Set<String> told) {
        due.forEach(s -> Check.holds(what + ": " + s, told.contains(s)));
        told.forEach(s -> Check.holds(what + " no " + s, due.contains(s)));
    }

    /** The text behind a heading, up to the next heading. */
    private static String chapter(String text, String heading) {
        List<MatchResult> found = groups(Pattern.compile("(?ms)^" + heading + "\n(.*?)(?=^##|\\z)"), text);
        Check.same("chapters " + heading, 1, found.size());
        return found.isEmpty() ? "" : found.get(0).group(1);
    }

    private static List<MatchResult> groups(Pattern pattern, String text) {
        return pattern.matcher(text).results().toList();
    }
}
