import java.io.IOException;
import java.lang.reflect.Method;
import java.lang.reflect.Modifier;
import java.nio.charset.StandardCharsets;
import java.nio.file.Files;
import java.nio.file.Path;
import java.util.ArrayList;
import java.util.Comparator;
import java.util.List;
import java.util.stream.Collectors;
import java.util.stream.Stream;

/** What README.md shows compiles and answers as it says there, and its way to run all tests is .ci/run. */
final class ReadmeTest {
    private static final Path SOURCE = Path.of("src", "main", "java", "WiredBeans.java");

    private ReadmeTest() {
    }

    public static void main(String[] args) throws IOException, InterruptedException {
        String readme = Files.readString(Path.of("README.md"));
        List<String> programs = blocks(readme, "java");
        List<String> answers = blocks(readme, "text");
        List<String> commands = blocks(readme, "sh");
        Check.is("one program, what it prints, how it is run and how all tests are", programs.size() + " " + answers.size()
                + " " + commands.size(), "1 1 2");
        example(programs.get(0), commands.get(0), answers.get(0));
        showsAll(programs.get(0));
        howToRunAllTests(commands.get(1));
        Check.end();
    }

    /** All that stands between ``` with the word, and the next ```. */
    private static List<String> blocks(String readme, String word) {
        List<String> found = new ArrayList<>();
        String start = "```" + word + "\n";
        for (int at = readme.indexOf(start); at >= 0; at = readme.indexOf(start, at + 1)) {
            int from = at + start.length();
            found.add(readme.substring(from, readme.indexOf("```", from)));
        }
        return found;
    }

    /** In a directory with the class and the program alone, so that nothing else is needed. */
    private static void example(String program, String commands, String due) throws IOException, InterruptedException {
        Path directory = Files.createTempDirectory("readme");
        try {
            Files.createDirectories(directory.resolve(SOURCE).getParent());
            Files.copy(SOURCE, directory.resolve(SOURCE));
            Files.writeString(directory.resolve("Example.java"), program);
            Process process = new ProcessBuilder("sh", "-e", "-c", commands).directory(directory.toFile())
                    .redirectErrorStream(true).start();
            String all = new String(process.getInputStream().readAllBytes(), StandardCharsets.UTF_8);
            Check.is("exit code of " + commands, process.waitFor(), 0);
            Check.is("what the program prints", all.replace(System.lineSeparator(), "\n"), due);
        } finally {
            remove(directory);
        }
    }

    private static void remove(Path directory) throws IOException {
        try (Stream<Path> all = Files.walk(directory)) {
            for (Path each : all.sorted(Comparator.reverseOrder()).collect(Collectors.toList())) {
                Files.delete(each);
            }
        }
    }

    private static void showsAll(String program) {
        for (Method method : WiredBeans.class.getDeclaredMethods()) {
            boolean isOfFace = Modifier.isPublic(method.getModifiers());
            Check.is(method.getName() + " is shown", !isOfFace || program.contains("beans." + method.getName() + "("), true);
        }
    }

    private static void howToRunAllTests(String command) {
        Check.is("how to run all tests", command, ".ci/run\n");
        Check.is("it can be run", Files.isExecutable(Path.of(".ci", "run")), true);
    }
}
