import java.util.LinkedHashMap;
import java.util.Map;

/** What is told changes nothing, and a call that throws changes nothing: the terms that hold for every promise. */
public final class EdgeTellingTest {
    private EdgeTellingTest() {
    }

    private static Map<String, Edge.Act> ofShelves() {
        Map<String, Edge.Act> calls = new LinkedHashMap<>();
        calls.put("shelves", GlideShelves::shelves);
        calls.put("heightOf", x -> x.heightOf(1));
        calls.put("sideOf", x -> x.sideOf(1));
        calls.put("slotOf", x -> x.slotOf(1));
        calls.put("isAtWindow", x -> x.isAtWindow(1));
        calls.put("thingsIn", x -> x.thingsIn(1, 1));
        calls.put("weightOf", x -> x.weightOf(1));
        calls.put("fetchesOf", x -> x.fetchesOf(1));
        return calls;
    }

    private static Map<String, Edge.Act> ofSlots() {
        Map<String, Edge.Act> calls = new LinkedHashMap<>();
        calls.put("isFree", x -> x.isFree(1, 19));
        calls.put("shelfAt", x -> x.shelfAt(0, 3));
        calls.put("freeBySlots", GlideShelves::freeBySlots);
        calls.put("freeByHeights", GlideShelves::freeByHeights);
        calls.put("firstPlace", x -> x.firstPlace(4));
        calls.put("longestGap", x -> x.longestGap(1));
        calls.put("lift", GlideShelves::lift);
        calls.put("isKeptPlace", GlideShelves::isKeptPlace);
        calls.put("sideWeight", x -> x.sideWeight(0));
        calls.put("trips", GlideShelves::trips);
        calls.put("tripTicks", x -> x.tripTicks(0));
        calls.put("wasFetch", x -> x.wasFetch(0));
        return calls;
    }

    private static Map<String, Edge.Act> ofThings() {
        Map<String, Edge.Act> calls = new LinkedHashMap<>();
        calls.put("weightOfKind", x -> x.weightOfKind(1));
        calls.put("stockByShelves", x -> x.stockByShelves(1));
        calls.put("stockByAccount", x -> x.stockByAccount(1));
        calls.put("shelvesWith", x -> x.shelvesWith(1));
        calls.put("leastOf", x -> x.leastOf(2));
        calls.put("missingOf", x -> x.missingOf(2));
        calls.put("shortKinds", GlideShelves::shortKinds);
        return calls;
    }

    private static Map<String, Edge.Act> ofOrders() {
        Map<String, Edge.Act> calls = new LinkedHashMap<>();
        calls.put("orders", GlideShelves::orders);
        calls.put("wanted", x -> x.wanted(1, 1));
        calls.put("thingsOf", x -> x.thingsOf(1));
        calls.put("canServe", x -> x.canServe(0));
        calls.put("fewestByTrying", x -> x.fewestByTrying(0));
        calls.put("fewestByGoing", x -> x.fewestByGoing(0));
        calls.put("choiceFor", x -> x.choiceFor(0));
        return calls;
    }

    private static Map<String, Edge.Act> ofAccounts() {
        Map<String, Edge.Act> calls = new LinkedHashMap<>();
        calls.put("ticks", GlideShelves::ticks);
        calls.put("fetches", GlideShelves::fetches);
        calls.put("served", GlideShelves::served);
        calls.put("heaviest", GlideShelves::heaviest);
        calls.put("mostFetched", GlideShelves::mostFetched);
        calls.put("usedWays", GlideShelves::usedWays);
        calls.put("meanWay", GlideShelves::meanWay);
        calls.put("meanTicks", GlideShelves::meanTicks);
        calls.put("digest", GlideShelves::digest);
        return calls;
    }

    private static void changeNothing(Map<String, Edge.Act> calls, Edge.Maker maker) {
        for (Map.Entry<String, Edge.Act> call : calls.entrySet()) {
            Edge.changesNothing(call.getKey(), maker, call.getValue());
        }
    }

    private static void tellersChangeNothing() {
        for (Edge.Maker maker : new Edge.Maker[] {Edge::rich, Edge::atWindow}) {
            Edge.of(0, "the interface says: ---- shelves as they are; nothing is changed.");
            changeNothing(ofShelves(), maker);
            Edge.of(0, "the interface says: ---- slots, the lift; nothing is changed.");
            changeNothing(ofSlots(), maker);
            Edge.of(0, "the interface says: ---- things; nothing is changed.");
            changeNothing(ofThings(), maker);
            Edge.of(0, "the interface says: ---- orders as they are; nothing is changed.");
            changeNothing(ofOrders(), maker);
            Edge.of(0, "the interface says: ---- accounts; nothing is changed.");
            changeNothing(ofAccounts(), maker);
        }
        Edge.of(0, "the interface says: ---- orders as they are; nothing is changed.");
        Edge.changesNothing("ticksByServing", Edge::rich, x -> x.ticksByServing(0));
        Edge.changesNothing("ticksBySums", Edge::rich, x -> x.ticksBySums(0));
        Edge.changesNothing("cheapestOrder", Edge::rich, GlideShelves::cheapestOrder);
        Edge.changesNothing("servable", Edge::rich, GlideShelves::servable);
        Edge.changesNothing("servable of none", Edge::eightOrders, GlideShelves::servable);
        Edge.of(0, "the interface says: ---- accounts; nothing is changed.");
        Edge.changesNothing("fetchTicks", Edge::rich, x -> x.fetchTicks(3));
        Edge.of(0, "the interface says: ---- slots, the lift; nothing is changed.");
        Edge.changesNothing("wouldPack", Edge::rich, GlideShelves::wouldPack);
        Edge.of(0, "the interface says: ---- shelves as they are; nothing is changed.");
        Edge.changesNothing("atWindow", Edge::atWindow, GlideShelves::atWindow);
    }

    private static void theBufferStays() {
        Edge.of(0, "A call that throws an exception changes nothing (the buffer stays as it is, too).");
        Edge.Maker wrong = () -> Edge.typed(Edge.ALL_KINDS + ",");
        Edge.refuses(Edge.ARGUMENT, wrong, GlideShelves::accept);
        Edge.refuses(Edge.STATE, () -> {
            GlideShelves x = Edge.eightOrders();
            Check.type(x, Edge.ALL_KINDS);
            return x;
        }, GlideShelves::accept);
        GlideShelves x = wrong.make();
        try {
            x.accept();
        } catch (IllegalArgumentException e) {
            Edge.is("its characters", x.firstError() + " " + x.clearBuffer(), "49 50");
        }
        Edge.refuses(Edge.ARGUMENT, () -> Edge.typed("0*1"), y -> y.append(127));
        Edge.refuses(Edge.INDEX, () -> Edge.typed("0*1"), y -> y.fetch(0));
        Edge.refuses(Edge.STATE, () -> Edge.typed("0*1"), GlideShelves::undo);
    }

    /** Calls for which two or three would be due: each one behind the one that is named first. */
    private static void theFirstNamedIsThrown() {
        Edge.of(0, "If several exceptions apply, the one that is named first in the throws clause is thrown.");
        Edge.refuses(Edge.ARGUMENT, Edge::atWindow, x -> x.addShelf(5));
        Edge.refuses(Edge.INDEX, Edge::atWindow, x -> x.fetch(4));
        Edge.refuses(Edge.INDEX, Edge::rich, x -> x.stowAt(0, 20));
        Edge.refuses(Edge.INDEX, Edge::rich, x -> x.fill(10, 21));
        Edge.refuses(Edge.ARGUMENT, Edge::rich, x -> x.fill(9, 21));
        Edge.refuses(Edge.STATE, Edge::rich, x -> x.fill(9, 20));
        Edge.refuses(Edge.INDEX, Edge::rich, x -> x.take(10, 21));
        Edge.refuses(Edge.ARGUMENT, Edge::rich, x -> x.take(9, 21));
        Edge.refuses(Edge.STATE, Edge::rich, x -> x.take(9, 20));
        Edge.refuses(Edge.ARGUMENT, Edge::eightOrders, GlideShelves::accept);
        Edge.refuses(Edge.INDEX, Edge::atWindow, x -> x.serve(3));
        Edge.refuses(Edge.INDEX, Edge::rich, x -> x.changeLeast(10, 100));
        Edge.refuses(Edge.INDEX, Edge::rich, x -> x.changeWeight(10, 10));
        Edge.refuses(Edge.ARGUMENT, Edge::full, x -> x.firstPlace(5));
        Edge.refuses(Edge.ARGUMENT, () -> Edge.typed("0".repeat(60)), x -> x.append(127));
        Edge.refuses(Edge.ARGUMENT, GlideShelves::new, x -> x.goBack(2));
        Edge.refuses(Edge.INDEX, Edge::atWindow, x -> x.ticksByServing(3));
        Edge.refuses(Edge.INDEX, Edge::atWindow, x -> x.ticksBySums(3));
        Edge.refuses(Edge.INDEX, Edge::atWindow, x -> x.fetchTicks(4));
    }

    public static void main(String[] args) {
        tellersChangeNothing();
        theBufferStays();
        theFirstNamedIsThrown();
        Check.end("EdgeTellingTest");
    }
}
