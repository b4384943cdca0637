import java.io.ByteArrayOutputStream;
import java.io.IOException;
import java.io.PrintStream;
import java.lang.reflect.Method;
import java.net.URI;
import java.net.URL;
import java.net.URLClassLoader;
import java.nio.file.DirectoryStream;
import java.nio.file.Files;
import java.nio.file.Path;
import java.util.HashMap;
import java.util.List;
import java.util.Map;
import java.util.TreeMap;
import java.util.TreeSet;
import java.util.regex.Matcher;
import java.util.regex.Pattern;
import javax.tools.JavaCompiler;
import javax.tools.ToolProvider;

/** That what README.md says is so: its example, its errors, and its table of tests. */
public final class ReadmeTest {
    private static final Path README = Path.of("README.md");
    private static final Pattern CALL = Pattern.compile(
        "\\s*(?:int (\\w+) = )?storage\\.(\\w+)\\(([^()]*)\\); *// (-?\\d+|[A-Z_]+)(?::.*)?");
    private static final Map<String, Integer> CONSTANTS = new TreeMap<>(Map.of(
        "INVALID_ARGUMENT", PeerStorage.INVALID_ARGUMENT,
        "NOT_POSSIBLE", PeerStorage.NOT_POSSIBLE,
        "LIMIT_REACHED", PeerStorage.LIMIT_REACHED,
        "NOT_FOUND", PeerStorage.NOT_FOUND));

    public static void main(String[] args) throws Exception {
        String page = Files.readString(README);
        String example = block(page, "java");
        answers(example);
        output(example, block(page, "text"));
        errors(page);
        tests(page);
        Due.is(".ci/run can be run", 1, Files.isExecutable(Path.of(".ci/run")) ? 1 : 0);
        Due.end();
    }

    private static String block(String page, String kind) {
        Matcher matcher = Pattern.compile("(?s)```" + kind + "\n(.*?)```").matcher(page);
        String block = matcher.find() ? matcher.group(1) : "";
        Due.is("README.md has a block of " + kind, 1, block.isEmpty() ? 0 : 1);
        return block;
    }

    /** Every call of the example answers what stands behind it. */
    private static void answers(String example) throws ReflectiveOperationException {
        PeerStorage storage = new PeerStorage();
        Map<String, Integer> known = new HashMap<>(CONSTANTS);
        int calls = 0;
        for (String line : example.split("\n")) {
            Matcher call = CALL.matcher(line);
            if (call.matches()) {
                int got = answer(storage, call.group(2), call.group(3), known);
                Due.is("in README.md, " + line.strip(), number(call.group(4), known), got);
                if (call.group(1) != null) {
                    known.put(call.group(1), got);
                }
                calls++;
            } else if (!line.contains("println")) {
                Due.is("calls without an answer in " + line.strip(), 0, line.contains("storage.") ? 1 : 0);
            }
        }
        Due.is("calls were found", 1, calls > 20 ? 1 : 0);
    }

    private static int answer(PeerStorage storage, String name, String arguments, Map<String, Integer> known)
            throws ReflectiveOperationException {
        String[] texts = arguments.isEmpty() ? new String[0] : arguments.split(", ");
        Object[] numbers = new Object[texts.length];
        for (int at = 0; at < texts.length; at++) {
            numbers[at] = number(texts[at], known);
        }
        for (Method method : PeerStorage.class.getMethods()) {
            if (method.getName().equals(name)) {
                return (int) method.invoke(storage, numbers);
            }
        }
        throw new IllegalStateException("README.md calls " + name);
    }

    private static int number(String text, Map<String, Integer> known) {
        return known.containsKey(text) ? known.get(text) : Integer.parseInt(text);
    }

    /** The example as it stands is compiled, and prints what the page says. */
    private static void output(String example, String printed) throws Exception {
        JavaCompiler compiler = ToolProvider.getSystemJavaCompiler();
        Path directory = Files.createTempDirectory("readme");
        Path source = Files.writeString(directory.resolve("Example.java"), example);
        Path compiled = directory.resolve("Example.class");
        URI own = PeerStorage.class.getProtectionDomain().getCodeSource().getLocation().toURI();
        int code = compiler.run(null, null, null, "-cp", Path.of(own).toString(), "-d", directory.toString(),
            source.toString());
        Due.is("the example compiles", 0, code);
        if (code == 0) {
            Due.same("the example, printed", printed, run(directory.toUri().toURL()).replace("\r", ""));
        }
        for (Path file : List.of(source, compiled, directory)) {
            Files.deleteIfExists(file);
        }
    }

    private static String run(URL directory) throws Exception {
        PrintStream screen = System.out;
        ByteArrayOutputStream printed = new ByteArrayOutputStream();
        try (URLClassLoader loader = new URLClassLoader(new URL[] {directory});
                PrintStream paper = new PrintStream(printed)) {
            System.setOut(paper);
            loader.loadClass("Example").getMethod("main", String[].class).invoke(null, (Object) new String[0]);
        } finally {
            System.setOut(screen);
        }
        return printed.toString();
    }

    /** The table of errors has the constants of the class, in the order in which they are returned. */
    private static void errors(String page) {
        Matcher row = Pattern.compile("(?m)^\\| `([A-Z_]+)` \\| (-?\\d+) \\|").matcher(page);
        StringBuilder found = new StringBuilder();
        while (row.find()) {
            found.append(row.group(1)).append(' ');
            Due.is(row.group(1), CONSTANTS.getOrDefault(row.group(1), 0), Integer.parseInt(row.group(2)));
        }
        Due.same("the errors in their order", "INVALID_ARGUMENT NOT_POSSIBLE LIMIT_REACHED NOT_FOUND ",
            found.toString());
    }

    private static void tests(String page) throws IOException {
        TreeSet<String> told = new TreeSet<>();
        Matcher row = Pattern.compile("(?m)^\\| `(\\w+Test)` \\|").matcher(page);
        while (row.find()) {
            told.add(row.group(1));
        }
        TreeSet<String> there = new TreeSet<>();
        try (DirectoryStream<Path> files = Files.newDirectoryStream(Path.of("src/test/java"), "*Test.java")) {
            for (Path file : files) {
                there.add(file.getFileName().toString().replace(".java", ""));
            }
        }
        Due.same("the table of tests", there.toString(), told.toString());
    }
}
