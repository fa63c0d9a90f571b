import java.io.IOException;
import java.io.InputStream;
import java.lang.reflect.Method;
import java.lang.reflect.Modifier;
import java.nio.charset.StandardCharsets;
import java.nio.file.DirectoryStream;
import java.nio.file.Files;
import java.nio.file.Path;
import java.util.Comparator;
import java.util.List;
import java.util.regex.Matcher;
import java.util.regex.Pattern;
import java.util.stream.Stream;

/** README.md: its example compiles and runs to its end by its own commands, and it names all that is here. */
public final class ReadmeTest {
    private static final Path README = Path.of("README.md");
    private static final Path SOURCE = Path.of("src/main/java/SugarKitchen.java");
    private static final Path TESTS = Path.of("src/test/java");

    private static int asked;
    private static int wrong;

    private static void must(boolean holds, String what) {
        asked++;
        if (!holds) {
            wrong++;
            System.out.println("readme: " + what);
        }
    }

    public static void main(String[] args) throws IOException, InterruptedException {
        String readme = Files.readString(README);
        example(readme);
        names(readme);
        System.out.println("readme: " + asked + " things looked at, " + wrong + " not as they must be");
        if (wrong != 0) {
            System.exit(1);
        }
    }

    // ---- the example

    /** In a directory of its own, laid out as the project's, so that nothing is left in the project. */
    private static void example(String readme) throws IOException, InterruptedException {
        Path directory = Files.createTempDirectory("readme");
        try {
            Path source = directory.resolve(SOURCE);
            Files.createDirectories(source.getParent());
            Files.copy(SOURCE, source);
            Files.writeString(directory.resolve("Example.java"), block(readme, "java"));
            StringBuilder printed = new StringBuilder();
            for (String command : block(readme, "sh").split("\n")) {
                printed.append(run(directory, command));
            }
            must(printed.toString().equals(block(readme, "text")),
                    "the example does not print what is told, but\n" + printed);
        } finally {
            remove(directory);
        }
    }

    /** What stands in the one block of this name. */
    private static String block(String readme, String name) {
        Matcher found = Pattern.compile("(?ms)^```" + name + "\n(.*?)^```$").matcher(readme);
        boolean any = found.find();
        must(any, "a block of " + name);
        String inside = any ? found.group(1) : "";
        must(!inside.isBlank(), "something in the block of " + name);
        must(any && !found.find(), "only one block of " + name);
        return inside;
    }

    /** What the command printed; what it tells of errors goes where the test's own errors go. */
    private static String run(Path directory, String command) throws IOException, InterruptedException {
        Process process = new ProcessBuilder(List.of(command.split(" ")))
                .directory(directory.toFile()).redirectError(ProcessBuilder.Redirect.INHERIT).start();
        String printed;
        try (InputStream output = process.getInputStream()) {
            printed = new String(output.readAllBytes(), StandardCharsets.UTF_8);
        }
        must(process.waitFor() == 0, "this ends well: " + command);
        return printed.replace("\r\n", "\n");
    }

    private static void remove(Path directory) throws IOException {
        try (Stream<Path> inside = Files.walk(directory)) {
            for (Path path : inside.sorted(Comparator.reverseOrder()).toList()) {
                Files.delete(path);
            }
        }
    }

    // ---- what it names

    private static void names(String readme) throws IOException {
        for (Method method : SugarKitchen.class.getDeclaredMethods()) {
            String name = method.getName();
            if (Modifier.isPublic(method.getModifiers())) {
                must(readme.contains("`" + name + "`"), "the call " + name + " is named");
            }
        }
        try (DirectoryStream<Path> files = Files.newDirectoryStream(TESTS, "*.java")) {
            for (Path file : files) {
                String name = file.getFileName().toString().replace(".java", "");
                must(readme.contains("`" + name + "`"), "the test or its help " + name + " is named");
            }
        }
        must(readme.contains("    .ci/run\n"), "how the tests are run");
    }
}
