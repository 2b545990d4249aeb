import java.io.IOException;
import java.nio.charset.StandardCharsets;
import java.nio.file.Files;
import java.nio.file.Path;
import java.util.ArrayList;
import java.util.Comparator;
import java.util.List;
import java.util.regex.Matcher;
import java.util.regex.Pattern;
import java.util.stream.Stream;

/** What README.md says is so: its example, its commands, and its list of the tests. */
public final class ReadmeTest {
    private static final Path TESTS = Path.of("src/test/java");

    public static void main(String[] args) throws IOException, InterruptedException {
        Due due = new Due();
        String readme = Files.readString(Path.of("README.md"));
        Path folder = Files.createTempDirectory("readme");
        try {
            // The commands write beside what they read, so they get a folder of their own.
            Files.createSymbolicLink(folder.resolve("src"), Path.of("src").toAbsolutePath());
            List<String> examples = blocks(readme, "java");
            List<String> commands = blocks(readme, "sh");
            due.is("examples", examples.size(), 1);
            due.is("commands", commands.size(), 3);
            example(due, folder, examples.get(0), commands.get(0));
            due.is("all tests", commands.get(1), ".ci/run\n");
            due.is("it can be run", Files.isExecutable(Path.of(".ci/run")), true);
            List<String> printed = new ArrayList<>();
            due.is("one test alone: exit code", run(folder, commands.get(2), printed), 0);
            due.is("one test alone", printed.toString().contains("answers are as due"), true);
        } finally {
            remove(folder);
        }
        tests(due, readme);
        due.end();
    }

    private static List<String> blocks(String readme, String kind) {
        List<String> found = new ArrayList<>();
        Matcher block = Pattern.compile("(?ms)^```" + kind + "\n(.*?)^```$").matcher(readme);
        while (block.find()) {
            found.add(block.group(1));
        }
        return found;
    }

    private static void example(Due due, Path folder, String example, String command)
            throws IOException, InterruptedException {
        Files.writeString(folder.resolve("Example.java"), example);
        List<String> printed = new ArrayList<>();
        due.is("the example: exit code", run(folder, command, printed), 0);
        int row = 0;
        for (String line : example.split("\n")) {
            Matcher print = Pattern.compile("println\\((.*)\\); +// ([^: ]+)(: .*)?$").matcher(line);
            if (print.find()) {
                due.is(print.group(1), row < printed.size() ? printed.get(row) : "nothing", print.group(2));
                row++;
            } else {
                due.is("a line that prints, without what it prints: " + line, line.contains("println"), false);
            }
        }
        due.is("lines that are printed", printed.size(), row);
        for (String name : FaceTest.names()) {
            due.is("the example has no call of " + name, example.contains("." + name + "("), true);
        }
    }

    private static int run(Path folder, String command, List<String> printed) throws IOException, InterruptedException {
        Process bash = new ProcessBuilder("bash", "-ec", command).directory(folder.toFile())
            .redirectErrorStream(true).start();
        printed.addAll(new String(bash.getInputStream().readAllBytes(), StandardCharsets.UTF_8).lines().toList());
        return bash.waitFor();
    }

    private static void tests(Due due, String readme) throws IOException {
        Matcher named = Pattern.compile("[A-Za-z0-9]+Test\\b").matcher(readme);
        while (named.find()) {
            due.is(named.group() + " is there", Files.exists(TESTS.resolve(named.group() + ".java")), true);
        }
        try (Stream<Path> files = Files.list(TESTS)) {
            for (Path file : files.sorted().toList()) {
                String name = file.getFileName().toString().replace(".java", "");
                boolean isNamed = !name.endsWith("Test") || name.matches("Promise[0-9]+Test")
                    || readme.contains("`" + name + "`");
                due.is(name + " is named", isNamed, true);
            }
        }
        for (int promise = 1; promise <= 21; promise++) {
            Path file = TESTS.resolve("Promise" + (promise < 10 ? "0" : "") + promise + "Test.java");
            due.is(file + " is there", Files.exists(file), true);
        }
    }

    private static void remove(Path folder) throws IOException {
        try (Stream<Path> files = Files.walk(folder)) {
            for (Path file : files.sorted(Comparator.reverseOrder()).toList()) {
                Files.delete(file);
            }
        }
    }
}
