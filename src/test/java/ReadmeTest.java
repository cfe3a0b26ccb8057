import java.io.ByteArrayOutputStream;
import java.io.File;
import java.io.IOException;
import java.io.PrintStream;
import java.net.URL;
import java.net.URLClassLoader;
import java.nio.charset.StandardCharsets;
import java.nio.file.Files;
import java.nio.file.Path;
import java.util.Set;
import java.util.TreeSet;
import java.util.regex.Matcher;
import java.util.regex.Pattern;
import java.util.stream.Stream;
import javax.tools.ToolProvider;

/** README.md: its example compiles and prints what it is said to print, and the page names each test and each call. */
public final class ReadmeTest {
    private static final Path TESTS = Path.of("src/test/java");

    public static void main(String[] args) throws IOException {
        String page = Files.readString(Path.of("README.md"));
        Due.is("what the example prints", blockOf(page, "text"), () -> printedBy(blockOf(page, "java")));
        Due.is("the command that runs the tests", ".ci/run", () -> blockOf(page.substring(page.indexOf("## How to run its tests")), "sh").trim());
        Due.is("the command that runs the tests is there", true, () -> Files.isExecutable(Path.of(".ci/run")));
        Due.is("the tests that the page names", testsThatAre(), () -> namesIn(page, "`(\\w+Test)`"));
        Due.is("calls that the page does not name", "[]", () -> {
            Set<String> names = new TreeSet<>(Probe.names());
            names.removeAll(namesIn(page, "`(\\w+)`"));
            return names;
        });
        Due.close("ReadmeTest");
    }

    /** The first block of a kind. */
    private static String blockOf(String page, String kind) {
        Matcher block = Pattern.compile("(?s)\n```" + kind + "\n(.*?)```\n").matcher(page);
        return block.find() ? block.group(1) : "there is no block of the kind " + kind;
    }

    private static String printedBy(String program) throws Exception {
        Path place = Files.createTempDirectory("readme");
        Path source = Files.writeString(place.resolve("Example.java"), program);
        PrintStream out = System.out;
        ByteArrayOutputStream printed = new ByteArrayOutputStream();
        int result = ToolProvider.getSystemJavaCompiler().run(null, null, null, "-Xlint:all", "-Werror", "-d", place.toString(),
            "-cp", System.getProperty("java.class.path"), source.toString());
        try (URLClassLoader loader = new URLClassLoader(new URL[] {place.toUri().toURL()})) {
            System.setOut(new PrintStream(printed, true, StandardCharsets.UTF_8));
            loader.loadClass("Example").getMethod("main", String[].class).invoke(null, (Object) new String[0]);
        } finally {
            System.setOut(out);
            Stream.of(place.toFile().listFiles()).forEach(File::delete);
            Files.delete(place);
        }
        return result == 0 ? printed.toString(StandardCharsets.UTF_8).replace(System.lineSeparator(), "\n") : "does not compile";
    }

    private static Set<String> testsThatAre() throws IOException {
        Set<String> names = new TreeSet<>();
        try (Stream<Path> files = Files.list(TESTS)) {
            files.map(file -> file.getFileName().toString()).filter(name -> name.endsWith("Test.java"))
                .forEach(name -> names.add(name.replace(".java", "")));
        }
        return names;
    }

    private static Set<String> namesIn(String page, String form) {
        Set<String> names = new TreeSet<>();
        Matcher name = Pattern.compile(form).matcher(page);
        while (name.find()) {
            names.add(name.group(1));
        }
        return names;
    }
}
