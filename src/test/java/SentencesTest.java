import java.io.IOException;
import java.nio.file.Files;
import java.nio.file.Path;
import java.util.List;
import java.util.Set;
import java.util.TreeSet;
import java.util.regex.Matcher;
import java.util.regex.Pattern;
import java.util.stream.Collectors;
import java.util.stream.Stream;

/** The list of the document's sentences names only tests that are there and are run, and each sentence has one. */
final class SentencesTest {
    private static final Path TESTS = Path.of("src", "test", "java");
    /** These hold no sentence of the document. */
    private static final Set<String> OTHERS = Set.of("LanguageTest", "SentencesTest");

    private SentencesTest() {
    }

    public static void main(String[] args) throws IOException {
        List<String> lines = Files.readAllLines(Path.of("src", "test", "SENTENCES.txt"));
        Set<String> named = namedTests(lines);
        eachIsRun(named);
        eachSentenceHasOne(lines);
        eachTestIsNamed(named);
        Check.end();
    }

    /** What stands there as a test's class, a dot and a method. */
    private static Set<String> namedTests(List<String> lines) {
        Set<String> named = new TreeSet<>();
        for (String line : lines) {
            Matcher found = Pattern.compile("\\b\\w+Test\\.\\w+").matcher(line.startsWith("    ") ? line : "");
            while (found.find()) {
                named.add(found.group());
            }
        }
        Check.is("many tests are named", named.size() > 100, true);
        return named;
    }

    /** The method is written in the test's file, and called there by another one. */
    private static void eachIsRun(Set<String> named) throws IOException {
        for (String test : named) {
            String[] parts = test.split("\\.");
            Path file = TESTS.resolve(parts[0] + ".java");
            String source = Files.exists(file) ? Files.readString(file) : "";
            Check.is(test + " is there", source.matches("(?s).*\\bvoid " + parts[1] + "\\(.*"), true);
            Check.is(test + " is run", source.matches("(?s).*\\n +(test\\.)?" + parts[1] + "\\(.*"), true);
        }
    }

    private static void eachSentenceHasOne(List<String> lines) {
        boolean isInList = false;
        for (int i = 0; i + 1 < lines.size(); i++) {
            isInList |= lines.get(i).startsWith("==");
            boolean isLastOfSentence = isInList && lines.get(i + 1).isEmpty() && !lines.get(i).isEmpty();
            if (isLastOfSentence && !lines.get(i).startsWith("==")) {
                Check.is("tests below " + lines.get(i), lines.get(i).startsWith("    "), true);
            }
        }
    }

    private static void eachTestIsNamed(Set<String> named) throws IOException {
        Set<String> classes = named.stream().map(test -> test.replaceAll("\\..*", "")).collect(Collectors.toSet());
        try (Stream<Path> files = Files.list(TESTS)) {
            for (Path file : files.collect(Collectors.toList())) {
                String name = file.getFileName().toString().replace(".java", "");
                Check.is(name + " is named", !name.endsWith("Test") || classes.contains(name) || OTHERS.contains(name), true);
            }
        }
    }
}
