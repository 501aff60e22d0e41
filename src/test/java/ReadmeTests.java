import java.io.IOException;
import java.io.StringWriter;
import java.lang.reflect.Method;
import java.lang.reflect.Modifier;
import java.net.URL;
import java.net.URLClassLoader;
import java.nio.file.Files;
import java.nio.file.Path;
import java.util.ArrayList;
import java.util.List;
import java.util.TreeSet;
import java.util.stream.Stream;
import javax.tools.JavaCompiler;
import javax.tools.StandardJavaFileManager;
import javax.tools.ToolProvider;

/** README.md: the calls that it shows compile and answer what it says, and what it says of the tests holds. */
final class ReadmeTests {
    private static final String COMPILED = "Readme";

    private ReadmeTests() {
    }

    static void run() {
        Check.part("README.md");
        try {
            ReadmePage page = ReadmePage.read();
            allCallsAreShown(page);
            callsAnswerWhatIsSaid(page);
            commandIsThere(page);
            allTestsAreListed(page);
        } catch (IOException | ReflectiveOperationException thrown) {
            Check.isTrue("the tests of the page ended with " + thrown, false);
        }
    }

    private static void allCallsAreShown(ReadmePage page) {
        TreeSet<String> due = new TreeSet<>();
        for (Method method : Cardhouse.class.getDeclaredMethods()) {
            if (Modifier.isPublic(method.getModifiers())) {
                due.add(method.getName());
            }
        }
        String text = String.join("\n", page.java);
        for (String name : due) {
            Check.isTrue(name + " is not shown", text.contains("house." + name + "("));
        }
        for (ReadmePage.Shown shown : page.shown()) {
            Check.isTrue("no answer is said of " + shown.call(), shown.answer() != null);
            Check.isTrue("there is no call " + shown.method(), due.contains(shown.method()));
        }
    }

    private static void callsAnswerWhatIsSaid(ReadmePage page) throws IOException, ReflectiveOperationException {
        Path directory = Files.createTempDirectory("readme");
        try {
            List<String> said = said(page, directory);
            List<ReadmePage.Shown> shown = page.shown();
            Check.same("the calls that were made", said.size(), shown.size());
            for (int i = 0; i < Math.min(said.size(), shown.size()); i++) {
                Check.isTrue(shown.get(i).line() + " -> " + said.get(i), said.get(i).equals(shown.get(i).answer()));
            }
        } finally {
            remove(directory);
        }
    }

    /** What the calls of the page answered; nothing if they do not compile. */
    private static List<String> said(ReadmePage page, Path directory)
            throws IOException, ReflectiveOperationException {
        Path source = directory.resolve(COMPILED + ".java");
        Files.writeString(source, "public final class " + COMPILED + " {\n"
            + "public static void asWritten() {\n" + String.join("\n", page.java) + "\n}\n"
            + "public static void noting(java.util.List<String> said) {\n" + page.noting() + "}\n}\n");
        List<String> said = new ArrayList<>();
        if (compiles(source, directory)) {
            URL[] places = {directory.toUri().toURL()};
            try (URLClassLoader loader = new URLClassLoader(places, ReadmeTests.class.getClassLoader())) {
                Class<?> compiled = loader.loadClass(COMPILED);
                compiled.getMethod("noting", List.class).invoke(null, said);
            }
        }
        return said;
    }

    private static boolean compiles(Path source, Path directory) throws IOException {
        JavaCompiler compiler = ToolProvider.getSystemJavaCompiler();
        if (compiler == null) {
            throw new IOException("there is no javac");
        }
        StringWriter told = new StringWriter();
        List<String> options = List.of("-Xlint:all", "-Werror", "-proc:none", "-d", directory.toString(),
            "-cp", System.getProperty("java.class.path"));
        try (StandardJavaFileManager files = compiler.getStandardFileManager(null, null, null)) {
            boolean compiles = compiler.getTask(told, files, null, options, null, files.getJavaFileObjects(source))
                .call();
            Check.isTrue("the calls do not compile: " + told, compiles);
            return compiles;
        }
    }

    private static void remove(Path directory) throws IOException {
        try (Stream<Path> files = Files.list(directory)) {
            for (Path file : files.toList()) {
                Files.delete(file);
            }
        }
        Files.delete(directory);
    }

    /** That the command runs the tests is seen when it runs this one. */
    private static void commandIsThere(ReadmePage page) throws IOException {
        Check.isTrue("the commands are " + page.shell, page.shell.equals(List.of(".ci/run")));
        Path command = Path.of(".ci/run");
        Check.isTrue(".ci/run can be run", Files.isExecutable(command));
        String text = Files.readString(command);
        Check.isTrue(".ci/run runs the project's tests", text.contains("AllTests src/test/java/*.java"));
        Check.isTrue(".ci/run runs the shared tests", text.contains("../shared/tests/*.java"));
    }

    private static void allTestsAreListed(ReadmePage page) throws IOException {
        TreeSet<String> there = new TreeSet<>();
        try (Stream<Path> files = Files.list(Path.of("src/test/java"))) {
            for (Path file : files.toList()) {
                String name = file.getFileName().toString().replace(".java", "");
                if (name.endsWith("Tests") && !name.equals("AllTests")) {
                    there.add(name);
                }
            }
        }
        Check.isTrue("listed are " + page.tests + ", due are " + there, new TreeSet<>(page.tests).equals(there));
        String all = Files.readString(Path.of("src/test/java/AllTests.java"));
        for (String name : there) {
            Check.isTrue("AllTests does not run " + name, all.contains(" " + name + ".run();"));
        }
    }
}
