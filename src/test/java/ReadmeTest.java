import java.io.IOException;
import java.net.URL;
import java.net.URLClassLoader;
import java.nio.file.Files;
import java.nio.file.Path;
import java.util.ArrayList;
import java.util.List;
import java.util.Set;
import java.util.TreeSet;
import java.util.regex.Matcher;
import java.util.regex.Pattern;
import java.util.stream.Collectors;
import java.util.stream.Stream;
import javax.tools.ToolProvider;

/** README.md against the class as it stands: its piece of Java, its table of the methods, and its list of the tests. */
public final class ReadmeTest {
    private static final Path README = Path.of("README.md");
    private static final Path TESTS = Path.of("src/test/java");
    private static final Pattern CLAIM = Pattern.compile("(?m)^(\\s*)(shop\\.[^;]*);\\s*// -> (\\S+)$");
    private static final Pattern ROW = Pattern.compile("(?m)^\\| `(\\w+\\([^`]*\\))` \\| [^|]+ \\|([^|]*)\\|$");

    public static void main(String[] args) throws IOException, ReflectiveOperationException {
        String readme = Files.readString(README);
        pieceOfJava(Document.between(readme, "```java\n", "```"));
        tableOfTheMethods(readme);
        listOfTheTests(Document.between(readme, "## Tests", "`ReadmeTest`") + "`ReadmeTest`");
        commands(readme);
        Check.end();
    }

    /** Compiles the piece as it stands, and once more with a test in place of each call that has an arrow. */
    private static void pieceOfJava(String piece) throws IOException, ReflectiveOperationException {
        Path place = Files.createTempDirectory("readme");
        runMain(place, "AsItStands", piece);
        Matcher claims = CLAIM.matcher(piece);
        StringBuilder tested = new StringBuilder();
        int found = 0;
        while (claims.find()) {
            claims.appendReplacement(tested, "$1answers.add(\"$2 -> \" + $2);");
            found++;
        }
        claims.appendTail(tested);
        Check.due("every arrow is a call", found, piece.split("->", -1).length - 1);
        List<String> due = CLAIM.matcher(piece).results().map(r -> r.group(2) + " -> " + r.group(3)).toList();
        Check.due("the answers", runMain(place, "Tested", tested.toString()), due);
        remove(place);
    }

    private static void remove(Path place) throws IOException {
        try (Stream<Path> files = Files.list(place)) {
            for (Path file : files.toList()) {
                Files.delete(file);
            }
        }
        Files.delete(place);
    }

    /** Runs a piece of Java as the body of a method, and answers the list "answers" that it can fill. */
    private static List<?> runMain(Path place, String name, String body)
            throws IOException, ReflectiveOperationException {
        Path source = place.resolve(name + ".java");
        Files.writeString(source, "public class " + name + " {\n"
                + "public static void run(java.util.List<String> answers) {\n" + body + "} }\n");
        int failed = ToolProvider.getSystemJavaCompiler().run(null, null, null, "-d", place.toString(), "-cp",
                System.getProperty("java.class.path"), source.toString());
        Check.due("compiling the piece of Java, " + name, failed, 0);
        List<String> answers = new ArrayList<>();
        if (failed == 0) {
            try (URLClassLoader loader = new URLClassLoader(new URL[] {place.toUri().toURL()})) {
                loader.loadClass(name).getMethod("run", List.class).invoke(null, answers);
            }
        }
        return answers;
    }

    /** The rows must be the methods of the document's face, in their order, with their parameters and exceptions. */
    private static void tableOfTheMethods(String readme) throws IOException {
        List<String> rows = new ArrayList<>();
        Matcher matcher = ROW.matcher(readme);
        while (matcher.find()) {
            String exceptions = matcher.group(2).trim();
            rows.add(matcher.group(1) + (exceptions.isEmpty() ? "" : " throws " + exceptions));
        }
        List<String> due = Document.methods().stream()
                .map(method -> method.replaceFirst("^\\w+ ", "").replaceAll("(int|char) (\\w+)(?=[,)])", "$2"))
                .collect(Collectors.toList());
        Check.due("the methods in the table", rows, due);
    }

    private static void listOfTheTests(String list) throws IOException {
        Set<String> listed = new TreeSet<>();
        Matcher matcher = Pattern.compile("`(\\w+Test)`").matcher(list);
        while (matcher.find()) {
            listed.add(matcher.group(1));
        }
        try (Stream<Path> files = Files.list(TESTS)) {
            Check.due("the tests listed", listed, files.map(file -> file.getFileName().toString())
                    .filter(file -> file.endsWith("Test.java")).map(file -> file.replace(".java", ""))
                    .collect(Collectors.toCollection(TreeSet::new)));
        }
    }

    private static void commands(String readme) {
        Check.due("the command that runs the tests", readme.contains("\n    .ci/run\n"), true);
        Check.due(".ci/run can be executed", Files.isExecutable(Path.of(".ci/run")), true);
        Matcher paths = Pattern.compile("`((?:\\.\\./shared|src)/[\\w./]+)`").matcher(readme);
        while (paths.find()) {
            Check.due(paths.group(1) + " is there", Files.exists(Path.of(paths.group(1))), true);
        }
    }
}
