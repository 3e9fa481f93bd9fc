import java.io.IOException;
import java.lang.reflect.Method;
import java.lang.reflect.Modifier;
import java.nio.file.Files;
import java.nio.file.Path;
import java.util.ArrayList;
import java.util.HashMap;
import java.util.List;
import java.util.Map;
import java.util.regex.Matcher;
import java.util.regex.Pattern;

/** What stands before the promises, where no test of edges asks it. It runs in the project's folder. */
public final class SaysTermsTest {
    private static final Path SOURCE = Path.of("src/main/java/GlideShelves.java");
    private static final Pattern PUBLIC = Pattern.compile("\n    public \\w+ (\\w+)\\(");

    private SaysTermsTest() {
    }

    private static void whatItIs() {
        Edge.of(0, "Shelves that travel to the picker: a tower with two sides, shelves of heights that take slots, a lift that"
                + " fetches them to a window and stows them where they were or at the first place that fits, things with"
                + " weights, free slots told in two ways, stocks told in two ways, orders, the fewest shelves that can serve"
                + " one told in two ways, what is served, ticks told by doing and by sums, places packed by use, trips that"
                + " are remembered, things that should be there, orders as texts with errors by place, accounts, snapshots"
                + " and undo.");
        GlideShelves x = Edge.rich();
        Edge.is("two sides", x.sideOf(0) + " " + x.sideOf(1), "0 1");
        Edge.is("heights", x.heightOf(0) + " " + x.heightOf(1) + " " + x.heightOf(2) + " " + x.heightOf(3), "2 4 1 3");
        Edge.is("weights", x.weightOf(0) + " " + x.weightOf(1) + " " + x.weightOf(2) + " " + x.weightOf(3), "7 15 0 5");
        Edge.is("free slots", x.freeBySlots() + " " + x.freeByHeights(), "30 30");
        Edge.is("stocks", x.stockByShelves(0) + " " + x.stockByAccount(0), "11 11");
        Edge.is("the fewest shelves", x.fewestByTrying(1) + " " + x.fewestByGoing(1), "2 2");
        Edge.is("ticks", x.ticksByServing(1) + " " + x.ticksBySums(1), "16 16");
        Edge.is("things that should be there", x.missingOf(2) + " " + x.shortKinds(), "8 4");
        Edge.is("an error by its place", x.firstError() + " " + x.append('x') + " " + x.firstError(), "2 3 2");
        Edge.is("it fetches", x.fetch(3) + " " + x.atWindow() + " " + x.lift(), "3 3 0");
        Edge.is("and stows where it was", x.stow() + " " + Edge.place(x, 3) + " " + x.lift(), "3 3 3");
        Edge.is("serving", x.serve(0) + " " + x.served() + " " + x.orders() + " " + x.thingsIn(3, 0), "12 1 2 2");
        Edge.is("trips", x.trips() + " " + x.tripTicks(0) + " " + x.tripTicks(1), "8 3 6");
        x.scrap(2);
        x.turnRule();
        x.fetch(2);
        Edge.is("and stows at the first place that fits", x.stow() + " " + Edge.place(x, 2), "2 2");
        // The shelf 2 was fetched 4 times, 0 twice, 1 once: they come to 0 in front, to 0 and to 2 behind.
        Edge.is("packed by use", x.pack() + " " + Edge.place(x, 2) + " " + Edge.place(x, 0) + " " + Edge.place(x, 1), "3 0 20 22");
        Edge.is("accounts", x.ticks() + " " + x.fetches() + " " + x.usedWays(), (13 + 3 + 3 + 12 + 3 + 2) + " 7 8");
        x.goBack(0);
        Edge.is("a snapshot", x.shelves() + " " + x.orders() + " " + x.fetches(), "4 0 2");
        x.undo();
        Edge.is("undo", x.shelves() + " " + x.orders() + " " + x.fetches(), "3 2 7");
    }

    private static void eachOrderFindsItsShelves() {
        Edge.of(0, "Each order finds its shelves.");
        GlideShelves x = Edge.eightOrders();
        for (int shelf = 0; shelf < 8; shelf++) {
            x.addShelf(1);
            Check.restock(x, shelf, 7 - shelf, 20);
        }
        for (int order = 0; order < 8; order++) {
            Edge.is("order " + order, x.canServe(order) + " " + x.choiceFor(order), "true " + (1 << 7 - order));
        }
    }

    private static void allNumbersAreIntegers() {
        Edge.of(0, "All numbers are integers, but for a mean.");
        for (Method method : GlideShelves.class.getDeclaredMethods()) {
            if (Modifier.isPublic(method.getModifiers())) {
                Class<?> type = method.getReturnType();
                boolean isFraction = type == double.class || type == float.class;
                Edge.is(method.getName(), isFraction, method.getName().startsWith("mean"));
            }
        }
        GlideShelves x = Edge.rich();
        Edge.is("means", x.meanWay() + " " + x.meanTicks(), 5.0 / 3.0 + " " + 13.0 / 3.0);
    }

    private static void anOrderWantsThings() {
        Edge.of(0, "An order wants some things of kinds.");
        GlideShelves x = Edge.typed("1*3,4*20,9*1");
        x.accept();
        Edge.each(x, (y, kind) -> y.wanted(0, kind), 0, 3, 0, 0, 20, 0, 0, 0, 0, 1);
        Edge.is("together", x.thingsOf(0), 24);
        Edge.refuses(Edge.ARGUMENT, GlideShelves::new, GlideShelves::accept);
        Edge.refuses(Edge.ARGUMENT, () -> Edge.typed("1*0"), GlideShelves::accept);
    }

    /** Each call that the sentence names changes something, or nothing if it tells alone. */
    private static void named(Map<String, Edge.Act> changing, Map<String, Edge.Act> telling, Edge.Maker maker) {
        for (String name : Edge.calls()) {
            Edge.is(name + " is asked", changing.containsKey(name) || telling.containsKey(name), true);
        }
        Edge.is("no other one is asked", changing.size() + telling.size(), Edge.calls().size());
        changing.forEach((name, call) -> Edge.changes(name, maker, call));
        telling.forEach((name, call) -> Edge.changesNothing(name, maker, call));
    }

    private static void callsForShelves() {
        Edge.of(0, "Ahead of the calls `addShelf`, `scrap`, `fetch`, `stow`, `stowAt`, `pack`, `fill`, `take` the interface"
                + " says: ---- shelves.");
        Map<String, Edge.Act> calls = new HashMap<>();
        calls.put("addShelf", x -> x.addShelf(2));
        calls.put("scrap", x -> x.scrap(2));
        calls.put("fetch", x -> x.fetch(1));
        calls.put("pack", GlideShelves::pack);
        calls.put("stow", fetched(GlideShelves::stow));
        calls.put("stowAt", fetched(x -> x.stowAt(1, 9)));
        calls.put("fill", fetched(x -> x.fill(0, 1)));
        calls.put("take", fetched(x -> x.take(1, 1)));
        named(calls, Map.of(), Edge::rich);
    }

    private static Edge.Act fetched(Edge.Act call) {
        return x -> {
            x.fetch(1);
            call.on(x);
        };
    }

    private static void callsForOrdersAndSettings() {
        Edge.of(0, "Ahead of the calls `accept`, `cancel`, `serve`, `serveAll`, `changeLeast`, `changeWeight`, `turnRule` the"
                + " interface says: ---- orders, settings.");
        Map<String, Edge.Act> calls = new HashMap<>();
        calls.put("accept", x -> Check.order(x, "0*1"));
        calls.put("cancel", x -> x.cancel(0));
        calls.put("serve", x -> x.serve(0));
        calls.put("serveAll", GlideShelves::serveAll);
        calls.put("changeLeast", x -> x.changeLeast(0, 1));
        calls.put("changeWeight", x -> x.changeWeight(0, 2));
        calls.put("turnRule", GlideShelves::turnRule);
        named(calls, Map.of(), Edge::rich);
    }

    private static void callsForTextsAndUndo() {
        Edge.of(0, "Ahead of the calls `append`, `clearBuffer`, `firstError` the interface says: ---- texts.");
        named(Map.of("append", x -> x.append('7'), "clearBuffer", GlideShelves::clearBuffer),
                Map.of("firstError", GlideShelves::firstError), Edge::rich);
        Edge.of(0, "Ahead of the calls `keep`, `goBack`, `undo`, `savedStates` the interface says: ---- snapshots, undo.");
        named(Map.of("keep", x -> x.keep(0), "goBack", x -> x.goBack(0), "undo", GlideShelves::undo),
                Map.of("savedStates", GlideShelves::savedStates), Edge::rich);
    }

    /** The class says ahead of its calls what the interface says: a heading, then these calls in this order. */
    private static void headings() throws IOException {
        Edge.of(0, "the interface says: ---- ");
        String document = Files.readString(Path.of("../shared/DOC.md"));
        String source = Files.readString(SOURCE);
        Matcher matcher = Pattern.compile("Ahead of the calls (.*) the interface says: (---- .*)\\.\n").matcher(document);
        int groups = 0;
        while (matcher.find()) {
            groups++;
            String[] parts = source.split(Pattern.quote("// " + matcher.group(2) + "\n"), 2);
            Edge.is("it says " + matcher.group(2), parts.length, 2);
            List<String> calls = new ArrayList<>();
            Matcher call = PUBLIC.matcher(parts[parts.length - 1].split("// ----")[0]);
            while (call.find()) {
                calls.add("`" + call.group(1) + "`");
            }
            Edge.is(matcher.group(2), String.join(", ", calls), matcher.group(1));
        }
        Edge.is("groups of calls", groups, 9);
    }

    public static void main(String[] args) throws IOException {
        whatItIs();
        eachOrderFindsItsShelves();
        allNumbersAreIntegers();
        anOrderWantsThings();
        callsForShelves();
        callsForOrdersAndSettings();
        callsForTextsAndUndo();
        headings();
        Edge.end("SaysTermsTest");
    }
}
