import java.io.IOException;
import java.nio.charset.StandardCharsets;
import java.nio.file.Files;
import java.nio.file.Path;
import java.util.regex.Matcher;
import java.util.regex.Pattern;

/** The program in README.md compiles, runs and prints what README.md says. */
public final class ReadmeTest {
    private static final Check C = new Check();

    private ReadmeTest() { }

    public static void main(String[] args) throws IOException, InterruptedException {
        String page = Files.readString(Path.of("README.md"));
        Path folder = Files.createTempDirectory("readme");
        Path source = folder.resolve("Example.java");
        Files.writeString(source, block(page, "java"));
        String classes = System.getProperty("java.class.path");
        String both = classes + System.getProperty("path.separator") + folder;
        due("", "javac", "-Xlint:all", "-Werror", "-cp", classes, "-d", folder.toString(), source.toString());
        due(block(page, "text"), "java", "-cp", both, "Example");
        C.due(true, () -> Files.isExecutable(Path.of(".ci/run")) && page.contains("```sh\n.ci/run\n```"));
        namesAllTests(page);
        remove(folder);
        C.end();
    }

    /** A command ends well, and prints what is due. */
    private static void due(String printed, String... command) throws IOException, InterruptedException {
        Process running = new ProcessBuilder(command).redirectError(ProcessBuilder.Redirect.INHERIT).start();
        String told = new String(running.getInputStream().readAllBytes(), StandardCharsets.UTF_8);
        int code = running.waitFor();
        C.due(printed + 0, () -> told.replace("\r\n", "\n") + code);
    }

    private static String block(String page, String kind) {
        Matcher found = Pattern.compile("```" + kind + "\n(.*?)```", Pattern.DOTALL).matcher(page);
        return found.find() ? found.group(1) : "no block of " + kind;
    }

    private static void namesAllTests(String page) throws IOException {
        try (var files = Files.list(Path.of("src/test/java"))) {
            for (Path file : files.toList()) {
                String name = file.getFileName().toString().replace(".java", "");
                C.due(name + true, () -> name + page.contains("`" + name + "`"));
            }
        }
    }

    private static void remove(Path folder) throws IOException {
        try (var files = Files.list(folder)) {
            for (Path file : files.toList()) {
                Files.delete(file);
            }
        }
        Files.delete(folder);
    }
}
