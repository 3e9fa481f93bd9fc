import java.io.IOException;
import java.nio.file.Files;
import java.nio.file.Path;
import java.util.ArrayList;
import java.util.HashSet;
import java.util.List;
import java.util.Set;
import java.util.regex.Matcher;
import java.util.regex.Pattern;
import java.util.stream.Stream;

/**
 * Each sentence that a Says or an Edge test names stands in the document, in the section of its promise (what stands before
 * the promises is 0), and each sentence there is named by a Says or an Edge test, each one that refuses a call or tells a
 * range by an Edge test. It runs in the project's folder.
 */
public final class SentencesTest {
    private static final Path DOCUMENT = Path.of("../shared/DOC.md");
    private static final Path TESTS = Path.of("src/test/java");
    private static final Pattern NAMED = Pattern.compile("Edge\\.of\\((\\d+),\\s*\"((?:[^\"\\\\]|\\\\.)*)\"\\)");
    private static final Pattern RANGE = Pattern.compile("^Returns .*\\d+ (?:to|or) \\d+.*");
    private static final Pattern SIGNATURE = Pattern.compile("^`[^`]*`: ");
    // A sentence ends where another one begins behind it, perhaps in brackets.
    private static final String END = "(?<=[.)])\\s+(?=[A-Z(])";
    private static final int PROMISES = 73;

    private SentencesTest() {
    }

    /** The sections: what stands before the promises, then one for each promise. */
    private static List<String> sections() throws IOException {
        String document = Files.readString(DOCUMENT);
        List<String> sections = new ArrayList<>();
        int start = 0;
        for (int promise = 1; promise <= PROMISES; promise++) {
            int next = document.indexOf("\n## Promise " + promise + ":");
            sections.add(document.substring(start, next));
            start = next;
        }
        int end = document.indexOf("\n## Not promised");
        sections.add(document.substring(start, end));
        return sections;
    }

    private static List<Path> tests(String kinds) throws IOException {
        try (Stream<Path> files = Files.list(TESTS)) {
            return files.filter(file -> file.getFileName().toString().matches(kinds + ".+Test\\.java")).sorted().toList();
        }
    }

    /** The promise, a colon and the sentence, of each that a test of these kinds names. */
    private static Set<String> findNamed(List<String> sections, String kinds) throws IOException {
        Set<String> named = new HashSet<>();
        for (Path file : tests(kinds)) {
            // A sentence that is longer than a line is joined from two texts.
            String code = Files.readString(file).replaceAll("\"\\s*\\+\\s*\"", "");
            Matcher matcher = NAMED.matcher(code);
            int found = 0;
            while (matcher.find()) {
                int promise = Integer.parseInt(matcher.group(1));
                String words = matcher.group(2).replace("\\\"", "\"").replace("\\\\", "\\");
                boolean stands = promise <= PROMISES && sections.get(promise).contains(words);
                Check.is(file.getFileName() + ": it stands in " + promise + ": " + words, stands, true);
                named.add(promise + ":" + words);
                found++;
            }
            int due = code.split("Edge\\.of\\(", -1).length - 1;
            Check.is(file.getFileName() + ": names that could be read", found, due);
        }
        return named;
    }

    /** The sentences of a section, without its code and its headings, some of which are marked by nothing but no end. */
    private static List<String> sentences(String section) {
        List<String> sentences = new ArrayList<>();
        for (String line : section.replaceAll("(?s)```.*?```", "").split("\n")) {
            if (line.startsWith("Throws `") || line.startsWith("- `")) {
                sentences.add(line);
            } else if (line.matches("[^#].*[.)]")) {
                sentences.addAll(List.of(SIGNATURE.matcher(line).replaceFirst("").split(END)));
            }
        }
        return sentences;
    }

    private static boolean namesAnEdge(String line) {
        return line.startsWith("Throws `") || line.startsWith("- `") || RANGE.matcher(line).matches();
    }

    private static boolean isPartOfOne(Set<String> named, int promise, String sentence) {
        return named.stream().anyMatch(words -> words.startsWith(promise + ":") && words.contains(sentence));
    }

    public static void main(String[] args) throws IOException {
        List<String> sections = sections();
        Set<String> named = findNamed(sections, "(Says|Edge)");
        Set<String> edges = findNamed(sections, "Edge");
        int count = 0;
        for (int promise = 0; promise <= PROMISES; promise++) {
            for (String sentence : sentences(sections.get(promise))) {
                count++;
                Check.is("a test names " + promise + ": " + sentence, isPartOfOne(named, promise, sentence), true);
                if (promise > 0 && namesAnEdge(sentence)) {
                    Check.is("an edge test names " + promise + ": " + sentence, edges.contains(promise + ":" + sentence), true);
                }
            }
        }
        Check.is("at least so many sentences could be read: " + count, count >= 335, true);
        Check.end("SentencesTest");
    }
}
