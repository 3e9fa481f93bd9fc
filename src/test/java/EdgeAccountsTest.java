import java.math.BigInteger;
import java.util.ArrayList;
import java.util.List;

/** Edges of the accounts and of the hash: promises 64 to 73. */
public final class EdgeAccountsTest {
    private EdgeAccountsTest() {
    }

    private static void promise64To66() {
        Edge.of(64, "Returns the ticks that the lift went so far.");
        GlideShelves x = Check.tower(1, 1);
        Edge.is("none", x.ticks(), 0);
        Edge.move(x, 0, 1, 19);
        Edge.is("a fetching of 0, a stowing of 21", x.ticks(), 21);
        x.fetch(0);
        Edge.is("a fetching of 0 and 21", x.ticks(), 42);
        x.undo();
        Edge.is("undone", x.ticks(), 21);
        x.pack();
        Edge.is("packing has none", x.ticks(), 21);
        x.fetchTicks(1);
        Edge.is("telling has none", x.ticks(), 21);
        Edge.of(65, "Returns how often shelves were fetched so far, those that are scrapped too.");
        Edge.is("once", x.fetches(), 1);
        x.scrap(0);
        Edge.is("the scrapped one, too", x.fetches() + " " + x.ticks(), "1 21");
        x.scrap(0);
        Edge.is("no shelf is left", x.fetches() + " " + x.shelves(), "1 0");
        Edge.is("none", new GlideShelves().fetches(), 0);
        Edge.of(66, "Returns how many orders were served so far.");
        GlideShelves y = Check.tower(1);
        Check.restock(y, 0, 0, 20);
        for (int order = 0; order < 5; order++) {
            Check.order(y, "0*4");
        }
        Edge.is("none", y.served(), 0);
        y.serve(4);
        Edge.is("one", y.served() + " " + y.fetches(), "1 2");
        y.cancel(0);
        Edge.is("a cancelled one is not", y.served(), 1);
        y.servable();
        y.ticksByServing(0);
        y.cheapestOrder();
        Edge.is("telling serves none", y.served() + " " + y.fetches(), "1 2");
        y.serveAll();
        Edge.is("all three", y.served() + " " + y.fetches(), "4 5");
        y.undo();
        Edge.is("undone", y.served() + " " + y.fetches(), "1 2");
    }

    private static void promise67() {
        Edge.of(67, "- `shelf`: the number of the shelf");
        GlideShelves x = Edge.twelve();
        Edge.is("the first of 12", x.fetchTicks(0), 0);
        Edge.is("the last of 12", x.fetchTicks(11), 5 + 7);
        Edge.move(x, 5, 1, 19);
        Edge.is("from 19 to 0", x.fetchTicks(0), 19);
        Edge.is("from 19 to 19", x.fetchTicks(5), 21);
        Edge.of(67, "Throws `IndexOutOfBoundsException` if there is no such shelf");
        Edge.refuses(Edge.INDEX, GlideShelves::new, y -> y.fetchTicks(0));
        Edge.refusesEach(Edge.INDEX, Edge::rich, Edge.outside(0, 3), GlideShelves::fetchTicks);
        Edge.refusesEach(Edge.INDEX, Edge::twelve, Edge.outside(0, 11), GlideShelves::fetchTicks);
        // Named before the other one.
        Edge.refusesEach(Edge.INDEX, Edge::atWindow, Edge.outside(0, 3), GlideShelves::fetchTicks);
        Edge.of(67, "Throws `IllegalStateException` if a shelf is at the window");
        Edge.refusesEach(Edge.STATE, Edge::atWindow, new int[] {0, 1, 2, 3}, GlideShelves::fetchTicks);
    }

    private static void promise68() {
        Edge.of(68, "Throws `IllegalStateException` if there is none");
        Edge.refuses(Edge.STATE, GlideShelves::new, GlideShelves::heaviest);
        Edge.refuses(Edge.STATE, () -> {
            GlideShelves x = Check.tower(1);
            x.scrap(0);
            return x;
        }, GlideShelves::heaviest);
        Edge.of(68, "Returns the number of the shelf, of several the lowest.");
        Edge.is("the only one, empty", Check.tower(1).heaviest(), 0);
        Edge.is("12 empty ones", Edge.twelve().heaviest(), 0);
        GlideShelves x = Edge.twelve();
        Check.restock(x, 11, 0, 2);
        Edge.is("the last of 12", x.heaviest(), 11);
        Check.restock(x, 4, 1, 2);
        Edge.is("a lower one that is like it", x.heaviest(), 4);
        Check.restock(x, 11, 0, 1);
        Edge.is("by one", x.heaviest(), 11);
        x.changeWeight(1, 2);
        Edge.is("by the weights of now", x.heaviest(), 4);
        x.fetch(4);
        Edge.is("at the window", x.heaviest(), 4);
        x.take(1, 1);
        Edge.is("2 and 3", x.heaviest(), 11);
    }

    private static void promise69() {
        Edge.of(69, "Throws `IllegalStateException` if there is none");
        Edge.refuses(Edge.STATE, GlideShelves::new, GlideShelves::mostFetched);
        Edge.refuses(Edge.STATE, () -> {
            GlideShelves x = Check.tower(1);
            Edge.use(x, 0, 2);
            x.scrap(0);
            return x;
        }, GlideShelves::mostFetched);
        Edge.of(69, "Returns the number of the shelf, of several the lowest.");
        Edge.is("the only one, never fetched", Check.tower(1).mostFetched(), 0);
        Edge.is("12 that were never fetched", Edge.twelve().mostFetched(), 0);
        GlideShelves x = Edge.twelve();
        Edge.use(x, 11, 1);
        Edge.is("the last of 12", x.mostFetched(), 11);
        x.fetch(3);
        Edge.is("a lower one that is like it, at the window", x.mostFetched(), 3);
        x.stow();
        x.fetch(11);
        Edge.is("by one", x.mostFetched(), 11);
    }

    private static void promise70And71() {
        Edge.of(70, "Tells how well the places suit the use: the ways of all places from the window, each times how often its"
                + " shelf was fetched, together.");
        Edge.is("none there", new GlideShelves().usedWays(), 0);
        Edge.is("never fetched", Edge.full().usedWays(), 0);
        GlideShelves x = Check.tower(1, 1);
        Edge.use(x, 0, 5);
        Edge.is("a way of 0", x.usedWays() + " " + x.meanWay(), "0 0.0");
        Edge.use(x, 1, 3);
        Edge.is("3 times a way of 2", x.usedWays(), 6);
        Edge.move(x, 1, 1, 19);
        Edge.is("4 times a way of 21", x.usedWays(), 84);
        x.fetch(1);
        Edge.is("5 times, at the window", x.usedWays(), 105);
        Edge.of(71, "Returns usedWays() as a double, divided by how often the shelves that there are were fetched; 0.0 if they never were.");
        Edge.is("of 10", x.meanWay(), 10.5);
        Edge.is("none there", new GlideShelves().meanWay(), 0.0);
        Edge.is("never fetched", Edge.full().meanWay(), 0.0);
        x.stow();
        x.scrap(0);
        Edge.is("without the scrapped one", x.meanWay(), 21.0);
        GlideShelves y = Check.tower(1, 1);
        Edge.use(y, 0, 1);
        y.scrap(0);
        Edge.is("those that there are never were", y.meanWay() + " " + y.fetches(), "0.0 1");
        GlideShelves third = Check.tower(1, 1);
        Edge.use(third, 0, 2);
        Edge.use(third, 1, 1);
        Edge.is("no whole number", third.meanWay(), 2.0 / 3.0);
    }

    private static void promise72() {
        Edge.of(72, "Returns the ticks so far, as a double, divided by how often shelves were fetched; 0.0 if none was.");
        Edge.is("none there", new GlideShelves().meanTicks(), 0.0);
        Edge.is("never fetched", Edge.full().meanTicks(), 0.0);
        GlideShelves x = Check.tower(1, 1);
        x.fetch(0);
        Edge.is("0 ticks", x.meanTicks(), 0.0);
        x.stowAt(0, 19);
        Edge.is("19 of one", x.meanTicks(), 19.0);
        x.fetch(1);
        Edge.is("19 and 21 of two", x.meanTicks(), 20.0);
        x.stow();
        x.scrap(0);
        Edge.is("42 of two, though one is scrapped", x.meanTicks(), 21.0);
        x.fetch(0);
        Edge.is("44 of three", x.meanTicks(), 44.0 / 3.0);
    }

    /** The list of the document for a tower without shelves, orders and snapshots, by the buffer's characters. */
    private static long wrapped(String buffer) {
        List<Integer> values = new ArrayList<>();
        values.add(0);
        for (int slot = 0; slot < 40; slot++) {
            values.add(0);
        }
        values.addAll(List.of(40, 40, 1, 1, 1, 1, 20, 20, 0, 1));
        for (int kind = 0; kind < 10; kind++) {
            values.addAll(List.of(1, 0, 0, 0, 0, 0));
        }
        values.addAll(List.of(0, 0, 0, 0, 0, 0));
        values.addAll(List.of(0, 0, 0, 0, 0, 0, 0));
        values.addAll(List.of(0, 0, 0, 0, buffer.length()));
        for (char code : buffer.toCharArray()) {
            values.add((int) code);
        }
        // Without overflow; only then the lowest 64 bits of it.
        BigInteger hash = BigInteger.valueOf(4349);
        for (int value : values) {
            hash = hash.multiply(BigInteger.valueOf(31)).add(BigInteger.valueOf(value));
        }
        Edge.is("it is too long for a long", hash.bitLength() > 64, true);
        return hash.longValue();
    }

    private static void promise73() {
        Edge.of(73, "in long arithmetic with overflow");
        Edge.is("an empty buffer", new GlideShelves().digest(), wrapped(""));
        Edge.is("one character", Edge.typed("!").digest(), wrapped("!"));
        Edge.is("a full buffer", Edge.typed("~".repeat(60)).digest(), wrapped("~".repeat(60)));
        int below = 0;
        for (int length = 0; length <= 60; length++) {
            String text = "~".repeat(length);
            long digest = Edge.typed(text).digest();
            Edge.is("of " + length, digest, wrapped(text));
            below += digest < 0 ? 1 : 0;
        }
        Edge.is("some below 0, some above", below > 0 && below < 61, true);
        for (int code = 33; code <= 126; code++) {
            String text = String.valueOf((char) code);
            Edge.is(text, Edge.typed(text).digest(), wrapped(text));
        }
        Edge.of(73, "the cheapest order and 1, together, 0 if cheapestOrder() throws");
        Edge.is("none of 8 can be served", Edge.eightOrders().digest() == new GlideShelves().digest(), false);
        Edge.changesNothing("telling", Edge::rich, GlideShelves::digest);
        Edge.changesNothing("telling, with one at the window", Edge::atWindow, GlideShelves::digest);
        Edge.changesNothing("telling of a full tower", Edge::full, GlideShelves::digest);
    }

    private long hash = 4349L;

    private void add(long... values) {
        for (long value : values) {
            hash = 31L * hash + value;
        }
    }

    private void add(boolean value) {
        add(value ? 1L : 0L);
    }

    private void addShelves(GlideShelves x, int shelves) {
        add(shelves);
        for (int shelf = 0; shelf < shelves; shelf++) {
            add(x.heightOf(shelf), x.sideOf(shelf), x.slotOf(shelf));
            add(x.isAtWindow(shelf));
            for (int kind = 0; kind < 10; kind++) {
                add(x.thingsIn(shelf, kind));
            }
            add(x.weightOf(shelf), x.fetchesOf(shelf));
        }
        for (int place = 0; place < 40; place++) {
            add(x.isFree(place / 20, place % 20) ? 0 : x.shelfAt(place / 20, place % 20) + 1);
        }
        add(x.freeBySlots(), x.freeByHeights());
        for (int height = 1; height <= 4; height++) {
            int place = -1;
            try {
                place = x.firstPlace(height);
            } catch (IllegalStateException e) {
                Edge.is("none is there", x.longestGap(0) < height && x.longestGap(1) < height, true);
            }
            add(place + 1);
        }
        add(x.longestGap(0), x.longestGap(1), x.lift());
        add(x.isKeptPlace());
    }

    private void addThings(GlideShelves x) {
        for (int kind = 0; kind < 10; kind++) {
            add(x.weightOfKind(kind), x.stockByShelves(kind), x.stockByAccount(kind));
            add(x.shelvesWith(kind), x.leastOf(kind), x.missingOf(kind));
        }
        add(x.shortKinds(), x.sideWeight(0), x.sideWeight(1), x.trips());
        for (int ago = 0; ago < x.trips(); ago++) {
            add(x.tripTicks(ago));
            add(x.wasFetch(ago));
        }
    }

    private void addOrders(GlideShelves x, int cheapest) {
        add(x.orders());
        for (int order = 0; order < x.orders(); order++) {
            for (int kind = 0; kind < 10; kind++) {
                add(x.wanted(order, kind));
            }
            add(x.canServe(order));
            if (x.canServe(order)) {
                add(x.fewestByTrying(order), x.fewestByGoing(order), x.choiceFor(order));
            }
        }
        add(cheapest + 1);
        add(x.ticks(), x.fetches(), x.served());
        boolean isAny = x.shelves() > 0;
        add(isAny ? x.heaviest() + 1 : 0, isAny ? x.mostFetched() + 1 : 0, x.usedWays(), x.savedStates());
        add(Double.doubleToLongBits(x.meanTicks()), Double.doubleToLongBits(x.meanWay()));
    }

    /** The list of the document by the public face; what no call tells is given: the cheapest order (-1), the rest. */
    private static void listed(String what, GlideShelves x, int cheapest, int inFirst, int inSecond, String buffer) {
        EdgeAccountsTest list = new EdgeAccountsTest();
        list.addShelves(x, x.shelves());
        list.addThings(x);
        list.addOrders(x, cheapest);
        list.add(inFirst, inSecond, buffer.length());
        for (char code : buffer.toCharArray()) {
            list.add(code);
        }
        Edge.is(what, x.digest(), list.hash);
    }

    private static void promise73Values() {
        Edge.of(73, "For each value v of the following list, in order, the hash becomes 31 * hash + v, in long arithmetic with overflow.");
        listed("nothing there", new GlideShelves(), -1, 0, 0, "");
        listed("12 shelves", Edge.twelve(), -1, 0, 0, "");
        listed("no room", Edge.full(), -1, 0, 0, "");
        listed("three slots", Edge.threeFree(), -1, 0, 0, "");
        listed("8 orders, none can be served", Edge.eightOrders(), -1, 0, 0, "");
        // The lift is at 3: 3 and 3 and twice 3 for 0*9, 3 and twice 2 and 3 and twice 3 for 1*2,2*1.
        listed("all", Edge.rich(), 0, 1, 1, "7*");
        listed("one at the window", Edge.atWindow(), -1, 1, 1, "7*");
        GlideShelves last = Edge.rich();
        last.cancel(0);
        Check.order(last, "0*9");
        listed("the last order is the cheapest", last, 2, 1, 1, "");
        GlideShelves x = Edge.rich();
        x.turnRule();
        x.pack();
        Edge.move(x, 2, 1, 13);
        x.serve(1);
        // The lift is at 0 then, where the shelf 0 is.
        listed("served", x, 0, 1, 1, "7*");
        for (int times = 0; times < 20; times++) {
            GlideShelves y = Check.tower(4, 3, 2, 1);
            Edge.move(y, 3, 1, 19);
            Edge.use(y, 0, times);
            Edge.use(y, 2, times % 7);
            listed("means of " + times, y, -1, 0, 0, "");
            GlideShelves z = Check.tower(1, 1, 1);
            Edge.use(z, 0, 2 * times);
            Edge.use(z, 1 + times % 2, 1);
            listed("means below 1 of " + times, z, -1, 0, 0, "");
        }
    }

    /** By the difference of two hashes: one value stands behind the slot 1, the length of the buffer, 0. */
    private static void promise73Snapshots() {
        Edge.of(73, "for each slot for snapshots 1 if it has one, otherwise 0; the length of the buffer and each of its character codes.");
        GlideShelves x = new GlideShelves();
        long none = x.digest();
        x.keep(1);
        Edge.is("slot 1", x.digest() - none, 31L);
        x.keep(0);
        Edge.is("both", x.digest() - none, 31L + 31L * 31L);
        GlideShelves y = new GlideShelves();
        y.keep(0);
        Edge.is("slot 0", y.digest() - none, 31L * 31L);
        x.append('!');
        Edge.is("a character", x.digest(), 31L * (none + 31L + 31L * 31L + 1L) + 33L);
        x.clearBuffer();
        Edge.is("cleared", x.digest() - none, 31L + 31L * 31L);
    }

    public static void main(String[] args) {
        promise64To66();
        promise67();
        promise68();
        promise69();
        promise70And71();
        promise72();
        promise73();
        promise73Values();
        promise73Snapshots();
        Edge.end("EdgeAccountsTest");
    }
}
