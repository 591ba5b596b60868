import java.io.IOException;
import java.nio.file.Files;
import java.nio.file.Path;
import java.util.Set;
import java.util.TreeSet;
import java.util.regex.Pattern;

/**
 * Every sentence of the document has a test. src/test/sentences.txt holds the document's words, part by part, and
 * behind each part the tests that hold it, or that it is free: all parts together must be the whole document, and each
 * test that is named must be there and be run.
 */
final class DocumentTest {
    private static final Path DOCUMENT = Path.of("../shared/DOC.md");
    private static final Path SENTENCES = Path.of("src/test/sentences.txt");
    private static final String FREE = "free";

    private final Check check = new Check();
    private final StringBuilder words = new StringBuilder();
    private final Set<String> named = new TreeSet<>();

    public static void main(String[] args) throws IOException {
        DocumentTest test = new DocumentTest();
        test.readSentences();
        test.isWholeDocument(Files.readString(DOCUMENT));
        for (String name : test.named) {
            test.isRun(name);
        }
        test.check.end();
    }

    private void readSentences() throws IOException {
        String part = "";
        boolean held = true;
        for (String line : Files.readAllLines(SENTENCES)) {
            if (line.startsWith("    ")) {
                held |= readTests(line.strip());
                continue;
            }
            check.due("whether '" + part + "' has a test", held, true);
            part = line;
            held = false;
            words.append(line);
        }
        check.due("whether '" + part + "' has a test", held, true);
    }

    private boolean readTests(String names) {
        if (!names.equals(FREE)) {
            named.addAll(Set.of(names.split(" ")));
        }
        return !names.isEmpty();
    }

    /** Headings and the fences around code are no sentences, and where the lines break is no matter. */
    private void isWholeDocument(String document) {
        String due = document.replaceAll("(?m)^(#|```).*$", "").replaceAll("\\s", "");
        String got = words.toString().replaceAll("\\s", "");
        int alike = 0;
        while (alike < Math.min(due.length(), got.length()) && due.charAt(alike) == got.charAt(alike)) {
            alike++;
        }
        int end = alike + 60;
        check.due("the first words that are not the document's",
            got.substring(alike, Math.min(end, got.length())), due.substring(alike, Math.min(end, due.length())));
    }

    /** A test is a class that .ci/run runs, or a method that such a class calls. */
    private void isRun(String name) throws IOException {
        String[] parts = name.split("\\.");
        Path file = Path.of("src/test/java", parts[0] + ".java");
        check.due(name + " is a test", parts[0].endsWith("Test") && Files.exists(file), true);
        if (parts.length == 1 || !Files.exists(file)) {
            return;
        }
        String source = Files.readString(file);
        check.due(name + " is there", has(source, "void " + parts[1] + "\\(Check check\\b"), true);
        check.due(name + " is run", has(source, "(?m)::" + parts[1] + "\\b|^ +" + parts[1] + "\\(check\\b"), true);
    }

    private static boolean has(String source, String pattern) {
        return Pattern.compile(pattern).matcher(source).find();
    }
}
