import java.io.IOException;
import java.lang.reflect.Method;
import java.net.MalformedURLException;
import java.net.URL;
import java.net.URLClassLoader;
import java.nio.file.Files;
import java.nio.file.Path;
import java.util.ArrayList;
import java.util.List;
import java.util.Set;
import java.util.TreeSet;
import java.util.regex.Matcher;
import java.util.regex.Pattern;
import java.util.stream.Stream;
import javax.tools.JavaCompiler;
import javax.tools.ToolProvider;

/**
 * That README.md is true: its examples compile as they stand there, each call of them answers what stands
 * behind it, they show each method of the face, and its list of tests names those that there are.
 */
public final class ReadmeTest {
    private static final Path README = Path.of("README.md");
    private static final Path TESTS = Path.of("src/test/java");
    private static final Path RUN = Path.of(".ci/run");
    private static final String NEW_CLUB = "Gambitvault club = new Gambitvault();";
    // A call, kept in a variable or not, and behind it what it answers, up to a colon or the end.
    private static final Pattern ROW =
            Pattern.compile("(?:int (\\w+) = )?(club\\.(\\w+)\\(.*\\)); +// ('.'|throws \\w+|[\\w.]+)(?::.*)?");
    private static final String HELPERS = """
            public final class Examples {
                static java.util.List<String> all = new java.util.ArrayList<>();
                static void add(java.util.concurrent.Callable<Object> call) {
                    try {
                        Object answer = call.call();
                        all.add(answer instanceof Character ? "'" + answer + "'" : String.valueOf(answer));
                    } catch (Exception e) {
                        all.add("throws " + e.getClass().getSimpleName());
                    }
                }
            """;

    private static final Check check = new Check();
    private static final List<String> rows = new ArrayList<>();
    private static final List<String> due = new ArrayList<>();
    private static final Set<String> shown = new TreeSet<>();

    public static void main(String[] args) throws IOException, ReflectiveOperationException {
        String readme = Files.readString(README);
        examples(blocks(readme, "java"));
        scripts(blocks(readme, "rows"));
        commands(readme);
        listOfTests(readme);
        check.end("ReadmeTest");
    }

    private static List<String> blocks(String readme, String kind) {
        List<String> blocks = Pattern.compile("(?ms)^```" + kind + "\n(.*?)^```$").matcher(readme).results()
                .map(found -> found.group(1)).toList();
        check.due("blocks of " + kind, false, blocks.isEmpty());
        return blocks;
    }

    private static void examples(List<String> blocks) throws IOException, ReflectiveOperationException {
        StringBuilder source = new StringBuilder(HELPERS);
        StringBuilder calls = new StringBuilder("public static java.util.List<String> answers() {\n");
        for (int i = 0; i < blocks.size(); i++) {
            source.append("static void asItStands").append(i).append("() {\n").append(blocks.get(i)).append("}\n");
            source.append("static void asked").append(i).append("() {\n").append(asking(blocks.get(i))).append("}\n");
            calls.append("asked").append(i).append("();\n");
        }
        source.append(calls).append("return all;\n}\n}\n");
        List<String> got = answers(source.toString());
        check.due("as many answers as rows", due.size(), got.size());
        for (int i = 0; i < due.size() && i < got.size(); i++) {
            check.due("README.md: " + rows.get(i), due.get(i), got.get(i));
        }
        check.due("methods that the examples show", allMethods(), shown);
    }

    /** The block's rows, each of them with its answer kept. */
    private static String asking(String block) {
        StringBuilder source = new StringBuilder();
        for (String row : block.split("\n")) {
            Matcher matcher = ROW.matcher(row);
            if (matcher.matches()) {
                String name = matcher.group(1);
                String call = matcher.group(2);
                source.append(name == null ? "" : "int " + name + " = " + call + ";\n");
                source.append("add(() -> ").append(name == null ? call : name).append(");\n");
                shown.add(matcher.group(3));
                rows.add(row);
                due.add(matcher.group(4));
            } else {
                check.due("README.md: a row tells its answer", NEW_CLUB, row);
                source.append(row).append('\n');
            }
        }
        return source.toString();
    }

    private static List<String> answers(String source) throws IOException, ReflectiveOperationException {
        Path folder = Files.createTempDirectory("readme");
        Path file = folder.resolve("Examples.java");
        try {
            Files.writeString(file, source);
            JavaCompiler compiler = ToolProvider.getSystemJavaCompiler();
            int failed = compiler.run(null, null, null, "-proc:none", "-cp", System.getProperty("java.class.path"),
                    "-d", folder.toString(), file.toString());
            check.due("README.md: the examples compile", 0, failed);
            return failed == 0 ? load(folder) : List.of();
        } finally {
            deleteAllIn(folder);
        }
    }

    private static List<String> load(Path folder)
            throws MalformedURLException, IOException, ReflectiveOperationException {
        URL[] places = {folder.toUri().toURL()};
        try (URLClassLoader loader = new URLClassLoader(places, ReadmeTest.class.getClassLoader())) {
            List<String> answers = new ArrayList<>();
            for (Object answer : (List<?>) loader.loadClass("Examples").getMethod("answers").invoke(null)) {
                answers.add(String.valueOf(answer));
            }
            return answers;
        }
    }

    private static void deleteAllIn(Path folder) throws IOException {
        List<Path> files;
        try (Stream<Path> found = Files.list(folder)) {
            files = found.toList();
        }
        for (Path file : files) {
            Files.delete(file);
        }
        Files.delete(folder);
    }

    private static Set<String> allMethods() {
        Set<String> names = new TreeSet<>();
        for (Method method : Gambitvault.class.getMethods()) {
            if (method.getDeclaringClass() == Gambitvault.class) {
                names.add(method.getName());
            }
        }
        return names;
    }

    private static void scripts(List<String> blocks) {
        for (String block : blocks) {
            new Script(check, "README.md").rows(block);
        }
    }

    private static void commands(String readme) {
        check.due("README.md: .ci/run is told", true, blocks(readme, "sh").contains(RUN + "\n"));
        check.due("README.md: .ci/run can be run", true, Files.isExecutable(RUN));
    }

    private static void listOfTests(String readme) throws IOException {
        Set<String> named = new TreeSet<>();
        for (String line : readme.lines().filter(line -> line.startsWith("| `")).toList()) {
            String names = line.split("\\|")[1];
            Pattern.compile("\\w+").matcher(names).results().forEach(found -> named.add(found.group()));
        }
        Set<String> there = new TreeSet<>();
        try (Stream<Path> files = Files.list(TESTS)) {
            files.map(file -> file.getFileName().toString()).filter(name -> name.endsWith("Test.java"))
                    .forEach(name -> there.add(name.replace(".java", "")));
        }
        check.due("README.md: the list of tests", there, named);
    }
}
