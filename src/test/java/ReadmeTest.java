import java.io.File;
import java.io.IOException;
import java.lang.reflect.Method;
import java.lang.reflect.Modifier;
import java.net.URL;
import java.net.URLClassLoader;
import java.nio.file.Files;
import java.nio.file.Path;
import java.util.ArrayList;
import java.util.List;
import java.util.TreeSet;
import java.util.function.Supplier;
import java.util.regex.Matcher;
import java.util.regex.Pattern;
import java.util.stream.Stream;
import javax.tools.JavaCompiler;
import javax.tools.ToolProvider;

/**
 * What README.md shows: its pieces of Java are put together as they stand, compiled and run; each call in them must
 * be answered as the words behind it say. Its list of tests must be the list of those that there are.
 */
public final class ReadmeTest {
    private static final Check CHECK = new Check();
    private static final Path PAGE = Path.of("README.md");
    private static final Path TESTS = Path.of("src", "test", "java");
    private static final String SHOWN = "ReadmeShows";
    private static final Pattern PIECE = Pattern.compile("^```java\\n(.*?)^```$", Pattern.DOTALL | Pattern.MULTILINE);
    private static final Pattern EXAMPLE =
        Pattern.compile("\\s*((?:\\w+|new DancedLock\\(\\))\\.(\\w+)\\(.*\\)); *// (-?\\d+|[A-Z]+)(?:: .+)?");
    private static final Pattern LISTED = Pattern.compile("^\\| (\\w+Test) \\| .+ \\|$", Pattern.MULTILINE);

    public static void main(String[] args) throws IOException, ReflectiveOperationException {
        String page = Files.readString(PAGE);
        examples(page);
        testsAreListed(page);
        CHECK.due("README.md says how the tests are run", page.contains("\n    bash .ci/run\n") ? 1 : 0, 1);
        CHECK.end();
    }

    // ---- the calls and their answers

    private static void examples(String page) throws IOException, ReflectiveOperationException {
        TreeSet<String> shown = new TreeSet<>();
        StringBuilder body = new StringBuilder();
        Matcher piece = PIECE.matcher(page);
        while (piece.find()) {
            for (String line : piece.group(1).split("\n")) {
                body.append(lineToRun(line, shown)).append('\n');
            }
        }
        CHECK.same("the methods that README.md shows", shown.toString(), publicMethods().toString());
        CHECK.same("what README.md shows otherwise", answersUnlike(body.toString()), "");
    }

    /** An example becomes a look at its answer; a line without a call stays as it is. */
    private static String lineToRun(String line, TreeSet<String> shown) {
        Matcher example = EXAMPLE.matcher(line);
        if (example.matches()) {
            shown.add(example.group(2));
            return "due(\"" + example.group(1).replace("\"", "\\\"") + "\", " + example.group(1) + ", "
                + numberOf(example.group(3)) + ");";
        }
        for (String name : publicMethods()) {
            CHECK.due("calls of " + name + " without an answer in README.md: " + line,
                line.split("//")[0].contains("." + name + "(") ? 1 : 0, 0);
        }
        return line;
    }

    private static String numberOf(String told) {
        return Character.isUpperCase(told.charAt(0)) ? "DancedLock." + told : told + "L";
    }

    private static TreeSet<String> publicMethods() {
        TreeSet<String> names = new TreeSet<>();
        for (Method method : DancedLock.class.getDeclaredMethods()) {
            if (Modifier.isPublic(method.getModifiers())) {
                names.add(method.getName());
            }
        }
        return names;
    }

    // ---- running what is shown

    private static String answersUnlike(String body) throws IOException, ReflectiveOperationException {
        Path folder = Files.createTempDirectory("readme");
        try {
            Path source = folder.resolve(SHOWN + ".java");
            Files.writeString(source, program(body));
            return compiles(folder, source) ? answersOf(folder) : "README.md's Java does not compile";
        } finally {
            remove(folder);
        }
    }

    private static String program(String body) {
        return "public final class " + SHOWN + " implements java.util.function.Supplier<String> {\n"
            + "private final StringBuilder unlike = new StringBuilder();\n"
            + "private void due(String call, long got, long want) {\n"
            + "if (got != want) { unlike.append(call + \" answered \" + got + \", shown is \" + want + \"; \"); }\n"
            + "}\n"
            + "public String get() {\n" + body + "return unlike.toString();\n}\n}\n";
    }

    private static boolean compiles(Path folder, Path source) {
        JavaCompiler compiler = ToolProvider.getSystemJavaCompiler();
        return compiler != null && compiler.run(null, null, null, "-d", folder.toString(), "-cp",
            System.getProperty("java.class.path"), source.toString()) == 0;
    }

    private static String answersOf(Path folder) throws IOException, ReflectiveOperationException {
        URL[] places = {folder.toUri().toURL()};
        try (URLClassLoader loader = new URLClassLoader(places, ReadmeTest.class.getClassLoader())) {
            Supplier<?> shows = (Supplier<?>) loader.loadClass(SHOWN).getDeclaredConstructor().newInstance();
            return (String) shows.get();
        }
    }

    private static void remove(Path folder) {
        File[] files = folder.toFile().listFiles();
        for (File file : files == null ? new File[0] : files) {
            file.delete();
        }
        folder.toFile().delete();
    }

    // ---- the list of tests

    private static void testsAreListed(String page) throws IOException {
        List<String> listed = new ArrayList<>();
        Matcher row = LISTED.matcher(page);
        while (row.find()) {
            listed.add(row.group(1));
        }
        listed.sort(null);
        try (Stream<Path> files = Files.list(TESTS)) {
            List<String> there = files.map(file -> file.getFileName().toString())
                .filter(name -> name.endsWith("Test.java"))
                .map(name -> name.substring(0, name.length() - ".java".length()))
                .sorted().toList();
            CHECK.same("the tests that README.md lists", listed.toString(), there.toString());
        }
    }
}
