import java.io.IOException;
import java.lang.reflect.Method;
import java.lang.reflect.Modifier;
import java.nio.file.Files;
import java.nio.file.Path;
import java.util.List;
import java.util.stream.Stream;
import javax.tools.ToolProvider;

/** README.md: its example is compiled as it stands and prints what is told; it names every call and every test. */
public final class ReadmeTest {
    private static final Due due = new Due("ReadmeTest");

    public static void main(String[] args) throws IOException, InterruptedException {
        String readme = Files.readString(Path.of("README.md"));
        example(readme);
        calls(readme);
        tests(readme);
        due.end();
    }

    /** What stands between the fences of the first block of this kind. */
    private static String block(String readme, String kind) {
        String fence = "\n```" + kind + "\n";
        int start = readme.indexOf(fence);
        int end = readme.indexOf("\n```\n", start + 1);
        if (start < 0 || end < 0) {
            return "no block of " + kind;
        }
        return readme.substring(start + fence.length(), end + 1);
    }

    private static void example(String readme) throws IOException, InterruptedException {
        due.part("the example");
        Path folder = Files.createTempDirectory(Files.createDirectories(Path.of("build")), "readme");
        Path source = Files.writeString(folder.resolve("Example.java"), block(readme, "java"));
        int status = ToolProvider.getSystemJavaCompiler().run(null, null, null, "-Xlint:all", "-Werror",
            "-cp", System.getProperty("java.class.path"), "-d", folder.toString(), source.toString());
        due.is("javac", status, 0);
        if (status == 0) {
            due.is("java", output(folder), block(readme, "text"));
        }
        try (Stream<Path> files = Files.list(folder)) {
            for (Path file : files.toList()) {
                Files.delete(file);
            }
        }
        Files.delete(folder);
    }

    private static String output(Path folder) throws IOException, InterruptedException {
        String path = System.getProperty("java.class.path") + System.getProperty("path.separator") + folder;
        List<String> command = List.of(Path.of(System.getProperty("java.home"), "bin", "java").toString(), "-cp", path,
            "Example");
        Process process = new ProcessBuilder(command).redirectErrorStream(true).start();
        String told = new String(process.getInputStream().readAllBytes()).replace(System.lineSeparator(), "\n");
        due.is("exit code", process.waitFor(), 0);
        return told;
    }

    private static void calls(String readme) {
        due.part("the calls");
        for (Method method : GraphKeep.class.getDeclaredMethods()) {
            if (Modifier.isPublic(method.getModifiers())) {
                String row = "\n| `" + method.getName() + "(";
                due.is("a row for " + method.getName(), readme.contains(row), true);
            }
        }
        for (String thrown : new String[] {"IllegalStateException", "ArithmeticException", "NoSuchElementException"}) {
            due.is("when " + thrown + " is thrown", readme.contains("\n- `" + thrown + "`: "), true);
        }
    }

    private static void tests(String readme) throws IOException {
        due.part("the tests");
        due.is("how they are run", readme.contains("\n    .ci/run\n"), true);
        try (Stream<Path> files = Files.list(Path.of("src/test/java"))) {
            for (Path file : files.toList()) {
                String name = file.getFileName().toString().replace(".java", "");
                if (name.endsWith("Test")) {
                    due.is(name, readme.contains("\n- `" + name + "`: "), true);
                }
            }
        }
    }
}
