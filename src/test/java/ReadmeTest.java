import java.io.ByteArrayOutputStream;
import java.io.File;
import java.io.IOException;
import java.io.PrintStream;
import java.lang.reflect.Field;
import java.lang.reflect.Method;
import java.lang.reflect.Modifier;
import java.net.URL;
import java.net.URLClassLoader;
import java.nio.charset.StandardCharsets;
import java.nio.file.Files;
import java.nio.file.Path;
import java.util.spi.ToolProvider;

/** What README.md says holds. It is looked for where .ci/run runs the tests: in the project's directory. */
final class ReadmeTest {
    public static void main(String[] args) throws IOException, ReflectiveOperationException {
        String readme = Files.readString(Path.of("README.md"));
        theExamplePrintsWhatIsSaid(block(readme, "java"), block(readme, "text"));
        everyCallAndConstantIsNamed(readme);
        everyTestIsNamed(readme);
        Expect.end("ReadmeTest");
    }

    private static String block(String readme, String language) {
        String opens = "```" + language + "\n";
        int from = readme.indexOf(opens);
        int to = readme.indexOf("```", from + opens.length());
        Expect.same("README.md has a block of " + language, from >= 0 && to >= 0, true);
        return from < 0 || to < 0 ? "" : readme.substring(from + opens.length(), to);
    }

    private static void theExamplePrintsWhatIsSaid(String example, String due)
            throws IOException, ReflectiveOperationException {
        File directory = Files.createTempDirectory("readme").toFile();
        File source = new File(directory, "Example.java");
        Files.writeString(source.toPath(), example);
        int compiled = ToolProvider.findFirst("javac").orElseThrow().run(System.out, System.out,
                "-cp", System.getProperty("java.class.path"), "-d", directory.getPath(), source.getPath());
        Expect.same("javac of the example", compiled, 0);
        if (compiled == 0) {
            Expect.same("the example", printedBy(directory), due);
        }
        for (File file : directory.listFiles()) {
            file.delete();
        }
        directory.delete();
    }

    private static String printedBy(File directory) throws IOException, ReflectiveOperationException {
        PrintStream out = System.out;
        ByteArrayOutputStream printed = new ByteArrayOutputStream();
        try (URLClassLoader loader = new URLClassLoader(new URL[] {directory.toURI().toURL()})) {
            Method main = loader.loadClass("Example").getMethod("main", String[].class);
            System.setOut(new PrintStream(printed, true, StandardCharsets.UTF_8));
            main.invoke(null, (Object) new String[0]);
        } finally {
            System.setOut(out);
        }
        return printed.toString(StandardCharsets.UTF_8).replace(System.lineSeparator(), "\n");
    }

    private static void everyCallAndConstantIsNamed(String readme) {
        for (Method method : FragmentLog.class.getDeclaredMethods()) {
            if (Modifier.isPublic(method.getModifiers())) {
                named(readme, "| `" + method.getName() + "(");
            }
        }
        for (Field field : FragmentLog.class.getDeclaredFields()) {
            if (Modifier.isPublic(field.getModifiers())) {
                named(readme, "`" + field.getName() + "`");
            }
        }
    }

    private static void everyTestIsNamed(String readme) {
        for (String file : new File("src/test/java").list()) {
            named(readme, "`" + file.replace(".java", "") + "`");
        }
        named(readme, "\n    .ci/run\n");
        Expect.same(".ci/run can be run", new File(".ci/run").canExecute(), true);
    }

    private static void named(String readme, String what) {
        Expect.same("README.md names " + what, readme.contains(what), true);
    }
}
