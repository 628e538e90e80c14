import java.io.IOException;
import java.nio.file.Files;
import java.nio.file.Path;
import java.util.Arrays;
import java.util.HashMap;
import java.util.List;
import java.util.Map;
import java.util.Set;
import java.util.TreeSet;
import java.util.regex.Matcher;
import java.util.regex.Pattern;
import java.util.stream.Stream;

/**
 * Each sentence of the document's terms and promises is named in the test that stands for it
 * (Check.sentence), and what is named there stands in the document.
 */
public final class SentencesTest {
    private static final Path DOCUMENT = Path.of("../shared/DOC.md");
    private static final Path TESTS = Path.of("src/test/java");
    private static final Pattern PROMISE = Pattern.compile("Promise (\\d+): .*");
    private static final Pattern NAMED = Pattern.compile("Check\\.sentence\\(\"([^\"]*)\"\\);");
    /** Beside its sentences a section has how its call is written, a term's name, or what the class is for. */
    private static final Pattern NO_SENTENCE = Pattern.compile(
            "`[^`]*`: |ROW BY ROW: |THE FORM of a FUNCTION: |Work that can be taken back: [^.]*\\.|[\\s;,.()]+");

    private final Map<String, List<String>> namedIn = new HashMap<>();

    public static void main(String[] args) throws IOException {
        SentencesTest test = new SentencesTest();
        test.readTests();
        test.readDocument(Files.readString(DOCUMENT));
        Check.finish();
    }

    private void readTests() throws IOException {
        try (Stream<Path> files = Files.list(TESTS)) {
            for (Path file : files.sorted().toList()) {
                String name = file.getFileName().toString();
                List<String> named = NAMED.matcher(Files.readString(file)).results().map(found -> found.group(1)).toList();
                namedIn.put(name.replaceAll("^(Edge(\\d\\d|LastCall)).*", "$1"), named);
            }
        }
    }

    private void readDocument(String document) {
        Set<String> asked = new TreeSet<>();
        for (String section : document.split("(?m)^## ")) {
            String heading = section.lines().findFirst().orElse("");
            String test = testOf(heading);
            if (!test.isEmpty()) {
                asked.add(test);
                allNamed(test, heading, section.substring(heading.length()).strip());
            }
        }
        Check.due("sections that have a test of their own", asked.size(), 15);
        for (String test : namedIn.keySet()) {
            for (String words : asked.contains(test) ? List.<String>of() : namedIn.get(test)) {
                Check.due(test + ": '" + words + "' stands in the document", document.contains(words), true);
            }
        }
    }

    private static String testOf(String heading) {
        Matcher promise = PROMISE.matcher(heading);
        if (promise.matches()) {
            return String.format("Edge%02d", Integer.parseInt(promise.group(1)));
        }
        return switch (heading) {
            case "Terms" -> "Edge00";
            case "What it is" -> "EdgeLastCall";
            default -> "";
        };
    }

    /** The words of a test stand in its own section, or among the terms that the section uses. */
    private void allNamed(String test, String heading, String body) {
        List<String> named = namedIn.getOrDefault(test, List.of());
        boolean[] covered = new boolean[body.length()];
        for (String words : named) {
            boolean found = false;
            for (int at = body.indexOf(words); at >= 0; at = body.indexOf(words, at + 1)) {
                Arrays.fill(covered, at, at + words.length(), true);
                found = true;
            }
            Check.due(test + ": '" + words + "' stands in " + heading, found || namedIn.get("Edge00").contains(words), true);
        }
        StringBuilder left = new StringBuilder();
        for (int at = 0; at < covered.length; at++) {
            left.append(covered[at] ? "" : body.charAt(at));
        }
        String unnamed = NO_SENTENCE.matcher(left).replaceAll("");
        Check.due(test + " leaves without a test: '" + unnamed + "'", unnamed.isEmpty(), true);
    }
}
