import java.io.ByteArrayOutputStream;
import java.io.IOException;
import java.io.PrintStream;
import java.lang.reflect.Method;
import java.lang.reflect.Modifier;
import java.nio.charset.StandardCharsets;
import java.nio.file.Files;
import java.nio.file.Path;
import java.util.ArrayList;
import java.util.List;
import java.util.Set;
import java.util.TreeSet;
import java.util.regex.Matcher;
import java.util.regex.Pattern;

/** README.md tells each call, which ones can be undone, and an example that answers so. It runs in the project's folder. */
public final class ReadmeTest {
    private ReadmeTest() {
    }

    private static String between(String text, String start, String end) {
        int from = text.indexOf(start) + start.length();
        return text.substring(from, text.indexOf(end, from));
    }

    private static List<String> find(String pattern, String text) {
        List<String> found = new ArrayList<>();
        Matcher matcher = Pattern.compile(pattern).matcher(text);
        while (matcher.find()) {
            found.add(matcher.group(1));
        }
        return found;
    }

    private static List<String> printedByTheExample() {
        PrintStream out = System.out;
        ByteArrayOutputStream printed = new ByteArrayOutputStream();
        System.setOut(new PrintStream(printed, true, StandardCharsets.US_ASCII));
        try {
            Example.run();
        } finally {
            System.setOut(out);
        }
        return List.of(printed.toString(StandardCharsets.US_ASCII).split("\\R"));
    }

    private static void theExample(String readme) throws IOException {
        String shown = between(readme, "```java\n", "```");
        String source = Files.readString(Path.of("src/test/java/Example.java"));
        String run = between(source, "        // from here\n", "        // to here").replaceAll("(?m)^ {8}", "");
        Check.is("the example is the one that is run", shown, run);
        List<String> told = find("println.*// (\\w+)", shown);
        Check.is("its answers", printedByTheExample(), told);
    }

    private static void theCalls(String readme) throws IOException {
        String calls = between(readme, "### Its calls\n", "\n### ");
        Set<String> due = new TreeSet<>();
        for (Method method : GlideShelves.class.getDeclaredMethods()) {
            if (Modifier.isPublic(method.getModifiers())) {
                due.add(method.getName());
            }
        }
        Check.is("all calls", new TreeSet<>(find("`([a-z]\\w+)`", calls)), due);
        String document = Files.readString(Path.of("../shared/DOC.md"));
        Set<String> undoable = new TreeSet<>(find("\n`\\w+ (\\w+)\\([^`]*`: [^\n]*\\bUndoable\\b", document));
        Check.is("those that can be undone", new TreeSet<>(find("`(\\w+)`\\\\\\*", calls)), undoable);
    }

    public static void main(String[] args) throws IOException {
        String readme = Files.readString(Path.of("README.md"));
        theExample(readme);
        theCalls(readme);
        Check.end("ReadmeTest");
    }
}
