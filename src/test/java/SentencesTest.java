import java.io.IOException;
import java.nio.file.Files;
import java.nio.file.Path;
import java.util.ArrayList;
import java.util.HashSet;
import java.util.List;
import java.util.Set;
import java.util.regex.Matcher;
import java.util.regex.Pattern;
import java.util.stream.Stream;

/**
 * Each sentence that a test of edges names stands in the document, in the section of its promise (the terms are 0), and
 * each one there that refuses a call or tells a range is named by a test. It runs in the project's folder.
 */
public final class SentencesTest {
    private static final Path DOCUMENT = Path.of("../shared/DOC.md");
    private static final Path TESTS = Path.of("src/test/java");
    private static final Pattern NAMED = Pattern.compile("Edge\\.of\\((\\d+),\\s*\"((?:[^\"\\\\]|\\\\.)*)\"\\)");
    private static final Pattern RANGE = Pattern.compile("^Returns .*\\d+ (?:to|or) \\d+.*");
    private static final int PROMISES = 73;

    private SentencesTest() {
    }

    /** The sections: what stands before the promises, then one for each promise. */
    private static List<String> sections() throws IOException {
        String document = Files.readString(DOCUMENT);
        List<String> sections = new ArrayList<>();
        int start = 0;
        for (int promise = 1; promise <= PROMISES; promise++) {
            int next = document.indexOf("\n## Promise " + promise + ":");
            sections.add(document.substring(start, next));
            start = next;
        }
        int end = document.indexOf("\n## Not promised");
        sections.add(document.substring(start, end));
        return sections;
    }

    private static List<Path> edgeTests() throws IOException {
        try (Stream<Path> files = Files.list(TESTS)) {
            return files.filter(file -> file.getFileName().toString().matches("Edge.+Test\\.java")).sorted().toList();
        }
    }

    /** The promise, a colon and the sentence, of each that a test names. */
    private static Set<String> findNamed(List<String> sections) throws IOException {
        Set<String> named = new HashSet<>();
        for (Path file : edgeTests()) {
            // A sentence that is longer than a line is joined from two texts.
            String code = Files.readString(file).replaceAll("\"\\s*\\+\\s*\"", "");
            Matcher matcher = NAMED.matcher(code);
            int found = 0;
            while (matcher.find()) {
                int promise = Integer.parseInt(matcher.group(1));
                String words = matcher.group(2).replace("\\\"", "\"").replace("\\\\", "\\");
                boolean stands = promise <= PROMISES && sections.get(promise).contains(words);
                Check.is(file.getFileName() + ": it stands in " + promise + ": " + words, stands, true);
                named.add(promise + ":" + words);
                found++;
            }
            int due = code.split("Edge\\.of\\(", -1).length - 1;
            Check.is(file.getFileName() + ": names that could be read", found, due);
        }
        return named;
    }

    private static boolean namesAnEdge(String line) {
        return line.startsWith("Throws `") || line.startsWith("- `") || RANGE.matcher(line).matches();
    }

    public static void main(String[] args) throws IOException {
        List<String> sections = sections();
        Set<String> named = findNamed(sections);
        for (int promise = 1; promise <= PROMISES; promise++) {
            String start = promise + ":";
            Check.is(promise + " is named", named.stream().anyMatch(words -> words.startsWith(start)), true);
            for (String line : sections.get(promise).split("\n")) {
                if (namesAnEdge(line)) {
                    Check.is("a test names " + start + line, named.contains(start + line), true);
                }
            }
        }
        Check.end("SentencesTest");
    }
}
