import java.io.IOException;
import java.lang.reflect.Constructor;
import java.lang.reflect.Field;
import java.lang.reflect.Method;
import java.lang.reflect.Modifier;
import java.nio.file.Files;
import java.nio.file.Path;
import java.util.Arrays;
import java.util.HashSet;
import java.util.List;
import java.util.Set;
import java.util.TreeSet;
import java.util.regex.Matcher;
import java.util.regex.Pattern;

/**
 * The class has the face of the document, and no private method bears the name of a public one. It runs in the project's
 * folder.
 */
public final class FaceTest {
    private static final String IOOBE = "IndexOutOfBoundsException";
    private static final String IAE = "IllegalArgumentException";
    private static final String ISE = "IllegalStateException";

    private static final List<String> DUE = List.of(
            face("int", "addShelf", "int", IAE, ISE),
            face("int", "scrap", "int", IOOBE, ISE),
            face("int", "fetch", "int", IOOBE, ISE),
            face("int", "stow", "", ISE),
            face("int", "stowAt", "int,int", IOOBE, ISE),
            face("int", "pack", "", ISE),
            face("int", "fill", "int,int", IOOBE, IAE, ISE),
            face("int", "take", "int,int", IOOBE, IAE, ISE),
            face("int", "accept", "", IAE, ISE),
            face("int", "cancel", "int", IOOBE),
            face("int", "serve", "int", IOOBE, ISE),
            face("int", "serveAll", "", ISE),
            face("int", "changeLeast", "int,int", IOOBE, IAE),
            face("int", "changeWeight", "int,int", IOOBE, IAE, ISE),
            face("boolean", "turnRule", ""),
            face("int", "append", "int", IAE, ISE),
            face("int", "clearBuffer", ""),
            face("int", "firstError", ""),
            face("void", "keep", "int", IAE),
            face("void", "goBack", "int", IAE, ISE),
            face("void", "undo", "", ISE),
            face("int", "savedStates", ""),
            face("int", "shelves", ""),
            face("int", "heightOf", "int", IOOBE),
            face("int", "sideOf", "int", IOOBE),
            face("int", "slotOf", "int", IOOBE),
            face("boolean", "isAtWindow", "int", IOOBE),
            face("int", "thingsIn", "int,int", IOOBE),
            face("int", "weightOf", "int", IOOBE),
            face("int", "fetchesOf", "int", IOOBE),
            face("int", "atWindow", "", ISE),
            face("boolean", "isFree", "int,int", IOOBE),
            face("int", "shelfAt", "int,int", IOOBE, ISE),
            face("int", "freeBySlots", ""),
            face("int", "freeByHeights", ""),
            face("int", "firstPlace", "int", IAE, ISE),
            face("int", "longestGap", "int", IOOBE),
            face("int", "lift", ""),
            face("boolean", "isKeptPlace", ""),
            face("int", "wouldPack", "", ISE),
            face("int", "sideWeight", "int", IOOBE),
            face("int", "trips", ""),
            face("int", "tripTicks", "int", IOOBE),
            face("boolean", "wasFetch", "int", IOOBE),
            face("int", "weightOfKind", "int", IOOBE),
            face("int", "stockByShelves", "int", IOOBE),
            face("int", "stockByAccount", "int", IOOBE),
            face("int", "shelvesWith", "int", IOOBE),
            face("int", "leastOf", "int", IOOBE),
            face("int", "missingOf", "int", IOOBE),
            face("int", "shortKinds", ""),
            face("int", "orders", ""),
            face("int", "wanted", "int,int", IOOBE),
            face("int", "thingsOf", "int", IOOBE),
            face("boolean", "canServe", "int", IOOBE),
            face("int", "fewestByTrying", "int", IOOBE, ISE),
            face("int", "fewestByGoing", "int", IOOBE, ISE),
            face("int", "choiceFor", "int", IOOBE, ISE),
            face("int", "ticksByServing", "int", IOOBE, ISE),
            face("int", "ticksBySums", "int", IOOBE, ISE),
            face("int", "cheapestOrder", "", ISE),
            face("int", "servable", "", ISE),
            face("int", "ticks", ""),
            face("int", "fetches", ""),
            face("int", "served", ""),
            face("int", "fetchTicks", "int", IOOBE, ISE),
            face("int", "heaviest", "", ISE),
            face("int", "mostFetched", "", ISE),
            face("int", "usedWays", ""),
            face("double", "meanWay", ""),
            face("double", "meanTicks", ""),
            face("long", "digest", ""));

    private FaceTest() {
    }

    private static String face(String type, String name, String parameters, String... thrown) {
        return type + " " + name + "(" + parameters + ") throws " + Arrays.toString(thrown);
    }

    private static String faceOf(Method method) {
        StringBuilder parameters = new StringBuilder();
        for (Class<?> type : method.getParameterTypes()) {
            parameters.append(parameters.length() == 0 ? "" : ",").append(type.getSimpleName());
        }
        String[] thrown = Arrays.stream(method.getExceptionTypes()).map(Class::getSimpleName)
                .toArray(String[]::new);
        return face(method.getReturnType().getSimpleName(), method.getName(), parameters.toString(), thrown);
    }

    /** The face that the pattern finds in the document: a type, a name, parameters and exceptions. */
    private static Set<String> facesIn(String document, String pattern) {
        Set<String> faces = new TreeSet<>();
        Matcher matcher = Pattern.compile(pattern).matcher(document);
        while (matcher.find()) {
            String thrown = matcher.group(4) == null ? "" : matcher.group(4);
            faces.add(face(matcher.group(1), matcher.group(2), matcher.group(3).replaceAll("(\\w+) \\w+", "$1").replace(" ", ""),
                    thrown.isEmpty() ? new String[0] : thrown.split(", ")));
        }
        return faces;
    }

    /** The document tells each call twice: in the public face, and at the head of its promise. */
    private static void testDocument() throws IOException {
        String document = Files.readString(Path.of("../shared/DOC.md"));
        String call = "(\\w+) (\\w+)\\(([^)]*)\\)(?: throws ([\\w, ]+))?";
        Check.is("the public face", facesIn(document, "\n    public " + call + ";"), new TreeSet<>(DUE));
        Check.is("the promises", facesIn(document, "\n`" + call + "`: "), new TreeSet<>(DUE));
    }

    private static void testPublicMembers() {
        Set<String> found = new TreeSet<>();
        for (Method method : GlideShelves.class.getDeclaredMethods()) {
            if (!Modifier.isPrivate(method.getModifiers())) {
                found.add(faceOf(method));
                Check.is(method + " is public and no more", method.getModifiers(), Modifier.PUBLIC);
            }
        }
        Check.is("the methods", found, new TreeSet<>(DUE));
        for (Field field : GlideShelves.class.getDeclaredFields()) {
            Check.is(field + " is private", Modifier.isPrivate(field.getModifiers()), true);
        }
        Constructor<?>[] constructors = GlideShelves.class.getDeclaredConstructors();
        Check.is("one constructor", constructors.length, 1);
        Check.is("its parameters", constructors[0].getParameterCount(), 0);
        Check.is("it is public", constructors[0].getModifiers(), Modifier.PUBLIC);
        Check.is("the class", GlideShelves.class.getModifiers(), Modifier.PUBLIC | Modifier.FINAL);
    }

    private static void testPrivateNames() {
        Set<String> publicNames = new HashSet<>();
        for (String due : DUE) {
            publicNames.add(due.substring(due.indexOf(' ') + 1, due.indexOf('(')));
        }
        for (Method method : GlideShelves.class.getDeclaredMethods()) {
            boolean isPrivate = Modifier.isPrivate(method.getModifiers());
            Check.is(method + " bears a public name", isPrivate && publicNames.contains(method.getName()), false);
        }
        for (Class<?> inside : GlideShelves.class.getDeclaredClasses()) {
            Check.is(inside + " is static", Modifier.isStatic(inside.getModifiers()), true);
            Check.is(inside + " is public or protected",
                    (inside.getModifiers() & (Modifier.PUBLIC | Modifier.PROTECTED)) != 0, false);
            for (Method method : inside.getDeclaredMethods()) {
                boolean isPrivate = Modifier.isPrivate(method.getModifiers());
                Check.is(method + " bears a public name", isPrivate && publicNames.contains(method.getName()), false);
            }
        }
    }

    public static void main(String[] args) throws IOException {
        Check.is("the promises of methods", DUE.size(), 72);
        testDocument();
        testPublicMembers();
        testPrivateNames();
        Check.end("FaceTest");
    }
}
