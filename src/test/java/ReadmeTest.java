import java.io.IOException;
import java.nio.charset.StandardCharsets;
import java.nio.file.Files;
import java.nio.file.Path;
import java.util.ArrayList;
import java.util.Comparator;
import java.util.List;
import java.util.Set;
import java.util.TreeSet;
import java.util.regex.Matcher;
import java.util.regex.Pattern;
import java.util.stream.Stream;

/** What README.md says is so: its commands are run as they stand there, in a copy of the project. */
public final class ReadmeTest {

    private static final Path TESTS = Path.of("src/test/java");

    private static final Due due = new Due();

    public static void main(String[] args) throws IOException, InterruptedException {
        String readme = Files.readString(Path.of("README.md"));
        Path copy = Files.createTempDirectory("readme");
        try {
            copyInto(copy, Path.of("src"));
            use(readme, copy);
            oneTest(readme, copy);
        } finally {
            remove(copy);
        }
        listOfTests(readme);
        due.is("README.md tells of .ci/run", readme.contains("`.ci/run`") ? 1 : 0, 1);
        due.end();
    }

    private static void use(String readme, Path copy) throws IOException, InterruptedException {
        Files.writeString(copy.resolve("Example.java"), blocks(readme, "java").get(0));
        Told told = run(copy, blocks(readme, "sh").get(0));
        due.is("the example prints", told.printed, blocks(readme, "text").get(0));
        due.is("the example ends", told.code, 0);
    }

    private static void oneTest(String readme, Path copy) throws IOException, InterruptedException {
        Told told = run(copy, blocks(readme, "sh").get(1));
        due.is("one test by itself: " + told.printed, told.code, 0);
    }

    private static void listOfTests(String readme) throws IOException {
        String list = readme.substring(readme.indexOf("## Tests"));
        Set<String> named = new TreeSet<>();
        for (Matcher name = Pattern.compile("`([A-Z][a-z]\\w*)`").matcher(list); name.find();) {
            named.add(name.group(1));
        }
        Set<String> found = new TreeSet<>();
        try (Stream<Path> files = Files.list(TESTS)) {
            files.forEach(file -> found.add(file.getFileName().toString().replace(".java", "")));
        }
        due.is("the tests that README.md lists", String.join(", ", named), String.join(", ", found));
    }

    private static List<String> blocks(String readme, String kind) {
        List<String> blocks = new ArrayList<>();
        Matcher block = Pattern.compile("(?ms)^```" + kind + "\n(.*?)^```$").matcher(readme);
        while (block.find()) {
            blocks.add(block.group(1));
        }
        return blocks;
    }

    private static final class Told {
        private String printed;
        private int code;
    }

    private static Told run(Path directory, String commands) throws IOException, InterruptedException {
        Process process = new ProcessBuilder("sh", "-e", "-c", commands)
                .directory(directory.toFile()).redirectErrorStream(true).start();
        Told told = new Told();
        told.printed = new String(process.getInputStream().readAllBytes(), StandardCharsets.UTF_8);
        told.code = process.waitFor();
        return told;
    }

    private static void copyInto(Path copy, Path directory) throws IOException {
        try (Stream<Path> files = Files.walk(directory)) {
            for (Path file : (Iterable<Path>) files::iterator) {
                Files.copy(file, copy.resolve(file.toString()));
            }
        }
    }

    private static void remove(Path directory) throws IOException {
        try (Stream<Path> files = Files.walk(directory)) {
            for (Path file : (Iterable<Path>) files.sorted(Comparator.reverseOrder())::iterator) {
                Files.delete(file);
            }
        }
    }
}
