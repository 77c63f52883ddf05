import java.io.IOException;
import java.io.UncheckedIOException;
import java.lang.reflect.Method;
import java.lang.reflect.Modifier;
import java.nio.charset.StandardCharsets;
import java.nio.file.Files;
import java.nio.file.Path;
import java.util.ArrayList;
import java.util.Comparator;
import java.util.List;
import java.util.TreeSet;
import java.util.regex.Matcher;
import java.util.regex.Pattern;
import java.util.stream.Collectors;
import java.util.stream.Stream;

/**
 * Does what README.md tells, in a directory of its own: its example is compiled and run by its own
 * commands, and prints what README.md tells. It is run from the project's directory, as .ci/run does.
 */
public final class ReadmeTest {
    private static final Path SOURCES = Path.of("src");
    private static final Path TESTS = Path.of("src/test/java");

    private static int wrong = 0;

    public static void main(String[] args) throws IOException, InterruptedException {
        String readme = Files.readString(Path.of("README.md"));
        Path place = Files.createTempDirectory(Files.createDirectories(Path.of("build")), "readme");
        try {
            copySources(place);
            example(readme, place);
            oneTestAlone(readme, place);
        } finally {
            remove(place);
        }
        namesEveryCall(readme);
        namesEveryTest(readme);
        System.out.println(wrong == 0 ? "README.md tells what is so" : wrong + " answers are not as due");
        if (wrong != 0) {
            System.exit(1);
        }
    }

    private static void example(String readme, Path place) throws IOException, InterruptedException {
        Files.writeString(place.resolve("Bells.java"), only("example", blocks(readme, "java")));
        String commands = blocks(readme, "sh").get(0);
        due("the example's output", run(place, commands), only("output", blocks(readme, "text")) + "exit 0");
    }

    private static void oneTestAlone(String readme, Path place) throws IOException, InterruptedException {
        due("one test alone", run(place, blocks(readme, "sh").get(1)), "all promises hold\nexit 0");
    }

    private static void namesEveryCall(String readme) {
        for (Method method : ToneButterflies.class.getDeclaredMethods()) {
            if (Modifier.isPublic(method.getModifiers())) {
                String name = "`" + method.getName() + "`";
                due("README.md names " + name, readme.contains(name), true);
            }
        }
    }

    private static void namesEveryTest(String readme) throws IOException {
        TreeSet<String> named = new TreeSet<>();
        Matcher test = Pattern.compile("(?m)^- `(src/test/java/\\w+\\.java)`: ").matcher(readme);
        while (test.find()) {
            named.add(test.group(1));
        }
        try (Stream<Path> files = Files.list(TESTS)) {
            due("the tests that README.md names", named,
                files.map(file -> file.toString().replace('\\', '/')).collect(Collectors.toCollection(TreeSet::new)));
        }
    }

    // ---- helpers

    private static void due(String what, Object got, Object want) {
        if (!want.equals(got)) {
            wrong++;
            System.out.println(what + ": got\n" + got + "\ndue is\n" + want);
        }
    }

    /** What stands in the blocks of a kind, in their order. */
    private static List<String> blocks(String readme, String kind) {
        List<String> found = new ArrayList<>();
        Matcher block = Pattern.compile("(?ms)^```" + kind + "\n(.*?)^```$").matcher(readme);
        while (block.find()) {
            found.add(block.group(1));
        }
        return found;
    }

    private static String only(String what, List<String> found) {
        due("README.md, how many times there is an " + what, found.size(), 1);
        return found.get(0);
    }

    private static String run(Path place, String commands) throws IOException, InterruptedException {
        Process shell = new ProcessBuilder("sh", "-e", "-c", commands)
            .directory(place.toFile()).redirectError(ProcessBuilder.Redirect.INHERIT).start();
        shell.getOutputStream().close();
        String printed = new String(shell.getInputStream().readAllBytes(), StandardCharsets.UTF_8);
        return printed.replace("\r\n", "\n") + "exit " + shell.waitFor();
    }

    private static void copySources(Path place) throws IOException {
        try (Stream<Path> files = Files.walk(SOURCES)) {
            for (Path file : files.filter(Files::isRegularFile).collect(Collectors.toList())) {
                Path copy = place.resolve(file.toString());
                Files.createDirectories(copy.getParent());
                Files.copy(file, copy);
            }
        }
    }

    private static void remove(Path place) throws IOException {
        try (Stream<Path> files = Files.walk(place)) {
            files.sorted(Comparator.reverseOrder()).forEach(file -> {
                try {
                    Files.delete(file);
                } catch (IOException e) {
                    throw new UncheckedIOException(e);
                }
            });
        }
    }
}
