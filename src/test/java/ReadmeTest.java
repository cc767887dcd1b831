import java.io.IOException;
import java.net.URL;
import java.net.URLClassLoader;
import java.nio.file.Files;
import java.nio.file.Path;
import java.util.Set;
import java.util.TreeSet;
import java.util.regex.Matcher;
import java.util.regex.Pattern;
import java.util.stream.Collectors;
import java.util.stream.Stream;
import javax.tools.ToolProvider;

/** What README.md says is so: its calls answer the numbers behind them, its table names the tests that there are. */
public final class ReadmeTest {
    private static final Due due = new Due();
    private static final Pattern BLOCK = Pattern.compile("(?s)```java\n(.*?)```");
    private static final Pattern ANSWERED =
            Pattern.compile("(?m)^(?:((?:int|long) (\\w+)) = )?(.*?); +// (-?\\d+)(?:: .*)?$");

    private ReadmeTest() {
    }

    public static void main(String[] args) throws IOException, ReflectiveOperationException {
        String page = Files.readString(Path.of("README.md"));
        callsAnswerSo(page);
        testsAreThere(page);
        commandsAreThere(page);
        due.end();
    }

    /** Called from the code that is made of the page. */
    public static void answered(String call, long got, long want) {
        due.is(call, got, want);
    }

    private static void callsAnswerSo(String page) throws IOException, ReflectiveOperationException {
        String calls = BLOCK.matcher(page).results().map(m -> m.group(1)).collect(Collectors.joining());
        long numbers = calls.lines().filter(line -> line.contains("//")).count();
        due.holds("there are calls with answers", numbers > 20);
        due.is("all of them can be asked", ANSWERED.matcher(calls).results().count(), numbers);
        run("public final class Page { public static void run() {\n"
                + ANSWERED.matcher(calls).replaceAll(m -> Matcher.quoteReplacement(asked(m.group(1), m.group(2),
                        m.group(3), m.group(4)))) + "}}\n");
    }

    /** A line of the page, with its answer looked at. */
    private static String asked(String declared, String name, String call, String answer) {
        String look = "ReadmeTest.answered(\"" + call.replace("\"", "\\\"") + "\", ";
        return declared == null
                ? look + call + ", " + answer + ");"
                : declared + " = " + call + "; " + look + name + ", " + answer + ");";
    }

    private static void run(String code) throws IOException, ReflectiveOperationException {
        Path folder = Files.createTempDirectory("readme");
        Path file = Files.writeString(folder.resolve("Page.java"), code);
        int failed = ToolProvider.getSystemJavaCompiler().run(null, null, null, "-cp",
                System.getProperty("java.class.path"), "-d", folder.toString(), file.toString());
        due.is("the page's calls compile", failed, 0);
        if (failed == 0) {
            try (URLClassLoader loader = new URLClassLoader(new URL[] {folder.toUri().toURL()})) {
                loader.loadClass("Page").getMethod("run").invoke(null);
            }
        }
        Files.deleteIfExists(folder.resolve("Page.class"));
        Files.deleteIfExists(file);
        Files.deleteIfExists(folder);
    }

    private static void testsAreThere(String page) throws IOException {
        Set<String> named = new TreeSet<>();
        Pattern.compile("(?m)^\\| (\\w+Test(?:, \\w+Test)*) \\|").matcher(page).results()
                .forEach(m -> named.addAll(Set.of(m.group(1).split(", "))));
        Set<String> found = new TreeSet<>();
        try (Stream<Path> files = Files.list(Path.of("src/test/java"))) {
            files.map(f -> f.getFileName().toString()).filter(f -> f.endsWith("Test.java"))
                    .forEach(f -> found.add(f.replace(".java", "")));
        }
        due.holds("the table's tests " + named + " are those that there are " + found, named.equals(found));
    }

    private static void commandsAreThere(String page) {
        due.holds("the page tells how to run the tests", page.contains("\n    .ci/run\n"));
        due.holds(".ci/run can be run", Files.isExecutable(Path.of(".ci/run")));
        due.holds("the page tells how to compile", page.contains("\n    javac -d out src/main/java/PushedIn.java\n"));
        due.holds("the class is there", Files.exists(Path.of("src/main/java/PushedIn.java")));
        for (String helper : new String[] {"Model", "Shown", "Yards"}) {
            due.holds(helper + " is named and there", page.contains("`" + helper + "`")
                    && Files.exists(Path.of("src/test/java/" + helper + ".java")));
        }
    }
}
