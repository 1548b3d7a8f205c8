import java.io.IOException;
import java.nio.file.DirectoryStream;
import java.nio.file.Files;
import java.nio.file.Path;
import java.util.Map;
import java.util.TreeMap;
import java.util.TreeSet;
import java.util.regex.Matcher;
import java.util.regex.Pattern;

/**
 * Each test of an *EdgeTests class says in a remark which promise and which sentence it is for; the sentence stands
 * in the document, in that promise or in the part of its Terms that is named.
 */
public final class RemarkTests {
    private static final Path TESTS = Path.of("src/test/java");
    private static final Path DOCUMENT = Path.of("../shared/DOC.md");
    private static final Pattern TEST = Pattern.compile("\n    static void (\\w+)\\(\\) \\{");
    private static final Pattern TEST_WITH_REMARK = Pattern.compile(
        "/\\*\\*((?:(?!\\*/).)*)\\*/\n    static void (\\w+)\\(\\) \\{", Pattern.DOTALL);
    private static final Pattern REMARK = Pattern.compile("(Promise \\d+|What it is)(?: \\(([A-Z0-9 ]+)\\))?: \".*");
    private static final Pattern QUOTE = Pattern.compile("\"([^\"]+)\"");

    private final Map<String, String> parts = new TreeMap<>();
    private final TreeSet<String> named = new TreeSet<>();

    private static String oneLine(String text) {
        return text.replaceAll("\n *\\* ?", " ").replaceAll("\\s+", " ").trim();
    }

    /** The document's text from one mark up to the next one. */
    private static String between(String document, String from, String to) {
        int begin = document.indexOf(from);
        int end = document.indexOf(to, begin + from.length());
        return begin < 0 || end < 0 ? "" : oneLine(document.substring(begin, end));
    }

    private void readDocument() throws IOException {
        String document = Files.readString(DOCUMENT);
        for (int promise = 1; promise <= 13; promise++) {
            parts.put("Promise " + promise, between(document, "## Promise " + promise + ":", "\n## "));
        }
        parts.put("What it is", between(document, "## What it is", "\n## "));
        parts.put("TYPES", between(document, "\nTYPES: ", "\nTHE FILE "));
        parts.put("THE FILE", between(document, "\nTHE FILE ", "\nCODE: "));
        parts.put("FAULT 1", between(document, "FAULT 1: ", "\nCODE: "));
        parts.put("CODE", between(document, "\nCODE: ", "\nVERIFYING "));
        parts.put("FAULT 2", between(document, "FAULT 2: ", "\nVERIFYING "));
        parts.put("VERIFYING", between(document, "\nVERIFYING ", "\n## "));
        parts.put("FAULT 3", between(document, "FAULT 3: ", "\n## "));
    }

    private void file(Path path) throws IOException {
        String source = Files.readString(path);
        TreeSet<String> tests = new TreeSet<>();
        Matcher test = TEST.matcher(source);
        while (test.find()) {
            tests.add(test.group(1));
        }
        Check.due(path + " has tests", tests.isEmpty(), false);
        Matcher found = TEST_WITH_REMARK.matcher(source);
        while (found.find()) {
            tests.remove(found.group(2));
            remark(path.getFileName() + ", " + found.group(2), oneLine(found.group(1)));
        }
        Check.due(path + " has tests without a remark: " + tests, tests.isEmpty(), true);
    }

    private void remark(String test, String text) {
        Matcher remark = REMARK.matcher(text);
        boolean good = remark.matches();
        Check.due(test + ": remark " + text + " names a promise and a sentence", good, true);
        if (!good) {
            return;
        }
        named.add(remark.group(1));
        String part = remark.group(2) == null ? remark.group(1) : remark.group(2);
        named.add(part);
        Matcher quote = QUOTE.matcher(text);
        while (quote.find() && !parts.isEmpty()) {
            boolean stands = parts.getOrDefault(part, "").contains(quote.group(1));
            Check.due(test + ": \"" + quote.group(1) + "\" stands in " + part, stands, true);
        }
    }

    private void all() throws IOException {
        if (Files.exists(DOCUMENT)) {
            readDocument();
        } else {
            System.out.println("the document is not here: the remarks are not compared with it");
        }
        try (DirectoryStream<Path> files = Files.newDirectoryStream(TESTS, "*EdgeTests.java")) {
            for (Path path : files) {
                file(path);
            }
        }
        for (int promise = 1; promise <= 13; promise++) {
            Check.due("promise " + promise + " has a test", named.contains("Promise " + promise), true);
        }
        for (String part : parts.keySet()) {
            Check.due(part + " has a test", named.contains(part), true);
        }
    }

    public static void main(String[] args) throws IOException {
        new RemarkTests().all();
        Check.end();
    }
}
