import java.io.IOException;
import java.nio.file.Files;
import java.nio.file.Path;
import java.util.Set;
import java.util.TreeSet;
import java.util.regex.Matcher;
import java.util.regex.Pattern;

/** The rules of LANGUAGE.md that a look at the words shows. It runs in the project's folder, as .ci/run does. */
public final class LanguageTest {
    private static final String LIBRARY = "System\\.arraycopy|Arrays\\.(copyOf|copyOfRange|fill)|List\\.of"
            + "|(Integer|Long|Math)\\.\\w+(?<!Exact)";
    private static final Set<String> EXCEPTIONS = Set.of("IllegalStateException", "IllegalArgumentException",
            "IndexOutOfBoundsException", "ArithmeticException", "UnsupportedOperationException",
            "NoSuchElementException", "RuntimeException");

    private LanguageTest() {
    }

    private static Set<String> find(String pattern, String code) {
        Set<String> found = new TreeSet<>();
        Matcher matcher = Pattern.compile(pattern).matcher(code);
        while (matcher.find()) {
            found.add(matcher.group(matcher.groupCount()));
        }
        return found;
    }

    public static void main(String[] args) throws IOException {
        String source = Files.readString(Path.of("src/main/java/GlideShelves.java"));
        String code = source.replaceAll("\"[^\"\n]*\"", "\"\"").replaceAll("(?s)/\\*.*?\\*/", "")
                .replaceAll("//[^\n]*", "");
        Check.is("signs", find("[^\\x0a\\x20-\\x7e]", source), Set.of());
        Check.is("words", find("\\b(package|finally|synchronized|assert|native|volatile|Object|Class|Thread|Double|Float"
                + "|Character|Boolean)\\b", code), Set.of());
        Check.is("lambdas and references", find("(\\)\\s*->|\\(\\s*\\w+\\s*->|=\\s*\\w+\\s*->|::)", code), Set.of());
        Check.is("static initialisers", find("(static\\s*\\{)", code), Set.of());
        Set<String> library = find("\\b((?:System|Math|Integer|Long|Arrays|String|List)\\.\\w+)", code);
        library.removeIf(name -> name.matches(LIBRARY));
        Check.is("the library", library, Set.of());
        Set<String> thrown = find("throw\\s+(?:new\\s+)?(\\w+)", code);
        thrown.removeAll(EXCEPTIONS);
        Check.is("exceptions", thrown, Set.of());
        Check.is("what the machine throws is caught", find("catch\\s*\\([^)]*\\b(Throwable|Error|Exception|ArrayIndexOutOfBoundsException"
                + "|NullPointerException|ClassCastException|NegativeArraySizeException|ArrayStoreException)\\b", code), Set.of());
        Check.is("endless loops", find("(while\\s*\\(\\s*true|for\\s*\\([^;)]*;\\s*;)", code), Set.of());
        Check.is("static fields that are not final", find("(static (?!final|class)[\\w\\[\\]]+ \\w+ ?[=;])", code), Set.of());
        Check.end("LanguageTest");
    }
}
