import java.io.ByteArrayOutputStream;
import java.io.IOException;
import java.io.PrintStream;
import java.lang.reflect.Method;
import java.lang.reflect.Modifier;
import java.net.URL;
import java.net.URLClassLoader;
import java.nio.charset.StandardCharsets;
import java.nio.file.Files;
import java.nio.file.Path;
import java.util.List;
import java.util.stream.Stream;
import javax.tools.ToolProvider;

/** README.md tells the truth: its example prints what it says, and it names every call and every test. */
public final class ReadmeTest {
    private static final Path FILE = Path.of("README.md");
    private static final Path TESTS = Path.of("src", "test", "java");
    private static final String EXAMPLE = "Example";

    private final String text;

    private ReadmeTest(String text) {
        this.text = text;
    }

    /** What stands between the first fence of this kind and its end; empty if there is none. */
    private String block(String kind) {
        String fence = "```" + kind + "\n";
        int from = text.indexOf(fence);
        int to = from < 0 ? -1 : text.indexOf("```", from + fence.length());
        return to < 0 ? "" : text.substring(from + fence.length(), to);
    }

    private static boolean compile(Path source, Path out) {
        return ToolProvider.getSystemJavaCompiler().run(null, null, null, "--release", "17", "-encoding", "UTF-8",
                "-cp", System.getProperty("java.class.path"), "-d", out.toString(), source.toString()) == 0;
    }

    private static String printedBy(Path classes) throws IOException, ReflectiveOperationException {
        PrintStream before = System.out;
        ByteArrayOutputStream printed = new ByteArrayOutputStream();
        try (URLClassLoader loader = new URLClassLoader(new URL[] {classes.toUri().toURL()})) {
            Method main = loader.loadClass(EXAMPLE).getMethod("main", String[].class);
            System.setOut(new PrintStream(printed, true, StandardCharsets.UTF_8));
            main.invoke(null, (Object) new String[0]);
        } finally {
            System.setOut(before);
        }
        return printed.toString(StandardCharsets.UTF_8).replace(System.lineSeparator(), "\n");
    }

    private static void delete(List<Path> files) throws IOException {
        for (Path file : files) {
            Files.deleteIfExists(file);
        }
    }

    private void testExample() throws IOException, ReflectiveOperationException {
        Path dir = Files.createTempDirectory("readme");
        Path source = dir.resolve(EXAMPLE + ".java");
        Path compiled = dir.resolve(EXAMPLE + ".class");
        try {
            Files.writeString(source, block("java"));
            boolean compiles = compile(source, dir);
            Check.same("the example compiles", true, compiles);
            Check.same("the README says what it prints", false, block("text").isEmpty());
            Check.sameText("the example", block("text"), compiles ? printedBy(dir) : "");
        } finally {
            delete(List.of(source, compiled, dir));
        }
    }

    private void testNamesCalls() {
        for (Method method : Rackrail.class.getDeclaredMethods()) {
            if (Modifier.isPublic(method.getModifiers())) {
                int takes = method.getParameterCount();
                String numbers = takes == 0 ? "" : "\\w+" + ", \\w+".repeat(takes - 1);
                String call = "(?s).*`" + method.getName() + "\\(" + numbers + "\\)`.*";
                Check.same("the README names " + method.getName(), true, text.matches(call));
            }
        }
    }

    private void testNamesTests() throws IOException {
        try (Stream<Path> files = Files.list(TESTS)) {
            for (Path file : files.sorted().toList()) {
                String name = file.getFileName().toString().replace(".java", "");
                Check.same("the README names " + name, true, text.contains("`" + name + "`"));
            }
        }
    }

    public static void main(String[] args) throws IOException, ReflectiveOperationException {
        ReadmeTest test = new ReadmeTest(Files.readString(FILE).replace("\r\n", "\n"));
        test.testExample();
        test.testNamesCalls();
        test.testNamesTests();
        Check.end("ReadmeTest");
    }
}
