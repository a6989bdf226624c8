import java.io.ByteArrayOutputStream;
import java.io.IOException;
import java.io.PrintStream;
import java.lang.reflect.Method;
import java.lang.reflect.Modifier;
import java.net.URL;
import java.net.URLClassLoader;
import java.nio.file.Files;
import java.nio.file.Path;
import java.util.Comparator;
import java.util.List;
import java.util.stream.Stream;
import javax.tools.ToolProvider;

/** README.md: its example compiles and prints what is told there; it names every call and every test. */
public final class ReadmeTest {
    private static final Check CHECK = new Check("ReadmeTest");

    private ReadmeTest() {
    }

    public static void main(String[] args) throws Exception {
        String readme = Files.readString(Path.of("README.md"));
        namesCalls(readme);
        namesTests(readme);
        Path made = Files.createTempDirectory("readme");
        try {
            CHECK.due("the example compiles", compile(made, block(readme, "java")), 0);
            String told = block(readme, "text");
            String printed = run(made);
            CHECK.due("the example prints what is told, but: " + printed, printed.equals(told), true);
        } finally {
            remove(made);
        }
        CHECK.end();
    }

    private static void namesCalls(String readme) {
        for (Method call : WaxTurns.class.getDeclaredMethods()) {
            if (Modifier.isPublic(call.getModifiers())) {
                CHECK.due(call.getName() + " is named", readme.contains("`" + call.getName() + "`"), true);
            }
        }
    }

    private static void namesTests(String readme) throws IOException {
        try (Stream<Path> files = Files.list(Path.of("src", "test", "java"))) {
            for (Path file : (Iterable<Path>) files.sorted()::iterator) {
                String name = file.getFileName().toString().replace(".java", "");
                if (name.endsWith("Test")) {
                    CHECK.due(name + " is named", readme.matches("(?s).*\\b" + name + "\\b.*"), true);
                }
            }
        }
    }

    private static String block(String readme, String sort) {
        String opening = "\n```" + sort + "\n";
        int from = readme.indexOf(opening);
        int to = from < 0 ? -1 : readme.indexOf("\n```", from + opening.length());
        return to < 0 ? "" : readme.substring(from + opening.length(), to + 1);
    }

    private static int compile(Path made, String example) throws IOException {
        Path file = made.resolve("Example.java");
        Files.writeString(file, example);
        return ToolProvider.getSystemJavaCompiler().run(null, null, null, "-d", made.toString(), "-cp",
            System.getProperty("java.class.path"), file.toString());
    }

    private static String run(Path made) throws Exception {
        PrintStream usual = System.out;
        ByteArrayOutputStream printed = new ByteArrayOutputStream();
        try (URLClassLoader loader = new URLClassLoader(new URL[] {made.toUri().toURL()})) {
            System.setOut(new PrintStream(printed, true));
            loader.loadClass("Example").getMethod("main", String[].class).invoke(null, (Object) new String[0]);
        } finally {
            System.setOut(usual);
        }
        return printed.toString().replace(System.lineSeparator(), "\n");
    }

    private static void remove(Path made) throws IOException {
        List<Path> files;
        try (Stream<Path> walked = Files.walk(made)) {
            files = walked.sorted(Comparator.reverseOrder()).toList();
        }
        for (Path file : files) {
            Files.delete(file);
        }
    }
}
