import java.io.IOException;
import java.nio.charset.StandardCharsets;
import java.nio.file.Files;
import java.nio.file.Path;
import java.util.ArrayList;
import java.util.List;
import java.util.Set;
import java.util.TreeSet;
import java.util.regex.Matcher;
import java.util.regex.Pattern;
import java.util.stream.Stream;

/** README.md, followed word by word in a copy of the project: its example, its commands, its names of tests. */
public final class ReadmeTest {
    private static final Pattern BLOCK = Pattern.compile("```(\\w+)\\n(.*?)```", Pattern.DOTALL);
    private static final Pattern TEST_NAME = Pattern.compile("\\b[A-Z]\\w+Test\\b");
    private static final String RUN_ALL = ".ci/run\n";

    public static void main(String[] args) throws IOException, InterruptedException {
        Checks checks = new Checks("ReadmeTest");
        String readme = Files.readString(Path.of("README.md"));
        Path copy = Files.createTempDirectory("readme");
        try {
            copyTree(Path.of("src"), copy.resolve("src"));
            checkExample(checks, readme, copy);
            checkTestCommands(checks, readme, copy);
        } finally {
            deleteTree(copy);
        }
        checkTestNames(checks, readme);
        checks.finish();
    }

    private static List<String> blocks(String readme, String kind) {
        List<String> found = new ArrayList<>();
        Matcher matcher = BLOCK.matcher(readme);
        while (matcher.find()) {
            if (matcher.group(1).equals(kind)) {
                found.add(matcher.group(2));
            }
        }
        return found;
    }

    private static void checkExample(Checks checks, String readme, Path copy)
            throws IOException, InterruptedException {
        String example = blocks(readme, "java").get(0);
        Files.writeString(copy.resolve("Example.java"), example);
        String due = blocks(readme, "text").get(0);
        checks.sameText("the example", outputOf(blocks(readme, "sh").get(0), copy), due + "exit code 0\n");
        checks.sameText("the example with 68 bytes", outputWith(68, readme, copy), due
                .replace("went 1, most held 59", "went 0, most held 68")
                .replace("states 3 0 1", "states 3 1 1") + "exit code 0\n");
        checks.sameText("the example with 58 bytes", outputWith(58, readme, copy), "steps 4\nended as 4\nresult 0\n"
                + "loads 2, went 0, most held 55\nstates 3 3 0\nexit code 0\n");
    }

    private static String outputWith(int limit, String readme, Path copy) throws IOException, InterruptedException {
        String example = blocks(readme, "java").get(0).replace("21, 59)", "21, " + limit + ")");
        Files.writeString(copy.resolve("Example.java"), example);
        return outputOf(blocks(readme, "sh").get(0), copy);
    }

    /** All tests are not run from here: this is one of them. */
    private static void checkTestCommands(Checks checks, String readme, Path copy)
            throws IOException, InterruptedException {
        checks.sameText("the command for all tests", blocks(readme, "sh").get(1), RUN_ALL);
        checks.same("it can be run", Files.isExecutable(Path.of(RUN_ALL.strip())) ? 1 : 0, 1);
        String one = outputOf(blocks(readme, "sh").get(2), copy);
        checks.same("one test alone: " + one, one.matches("RoomTest: \\d+ checks, 0 wrong\nexit code 0\n") ? 1 : 0, 1);
    }

    private static void checkTestNames(Checks checks, String readme) throws IOException {
        Set<String> named = new TreeSet<>();
        Matcher matcher = TEST_NAME.matcher(readme);
        while (matcher.find()) {
            named.add(matcher.group());
        }
        Set<String> there = new TreeSet<>();
        try (Stream<Path> files = Files.list(Path.of("src/test/java"))) {
            files.map(file -> file.getFileName().toString()).filter(name -> name.endsWith("Test.java"))
                    .forEach(name -> there.add(name.replace(".java", "")));
        }
        checks.sameText("the tests that it names", named.toString(), there.toString());
    }

    /** What the commands print and how they end; what a JDK may say of itself goes elsewhere. */
    private static String outputOf(String commands, Path directory) throws IOException, InterruptedException {
        Process process = new ProcessBuilder("bash", "-ec", commands).directory(directory.toFile())
                .redirectError(ProcessBuilder.Redirect.INHERIT).start();
        process.getOutputStream().close();
        String output = new String(process.getInputStream().readAllBytes(), StandardCharsets.UTF_8);
        return output + "exit code " + process.waitFor() + "\n";
    }

    private static void copyTree(Path from, Path to) throws IOException {
        for (Path path : tree(from)) {
            Path target = to.resolve(from.relativize(path));
            if (Files.isDirectory(path)) {
                Files.createDirectories(target);
            } else {
                Files.copy(path, target);
            }
        }
    }

    private static void deleteTree(Path top) throws IOException {
        List<Path> paths = tree(top);
        for (int i = paths.size() - 1; i >= 0; i--) {
            Files.delete(paths.get(i));
        }
    }

    /** A directory before what is in it. */
    private static List<Path> tree(Path top) throws IOException {
        try (Stream<Path> paths = Files.walk(top)) {
            return paths.toList();
        }
    }
}
