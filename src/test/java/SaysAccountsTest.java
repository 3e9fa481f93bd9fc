/** What the accounts and the hash say, where no test of edges asks it: promises 64 to 73. */
public final class SaysAccountsTest {
    private SaysAccountsTest() {
    }

    private static void sums() {
        Edge.of(64, "Returns the ticks.");
        Edge.is("0 and 0, 2 and 2, 6 and 3", Edge.rich().ticks(), 13);
        Edge.is("and 5", Edge.atWindow().ticks(), 18);
        Edge.is("and 3 and 0, 6 and 3", Edge.served().ticks(), 25);
        Edge.of(65, "Returns how often.");
        Edge.is("three times", Edge.rich().fetches(), 3);
        Edge.is("and once", Edge.atWindow().fetches(), 4);
        Edge.is("and twice in serving", Edge.served().fetches(), 5);
        Edge.of(66, "Returns the orders.");
        Edge.is("none", Edge.rich().served() + " " + Edge.atWindow().served(), "0 0");
        Edge.is("one", Edge.served().served(), 1);
        GlideShelves x = Edge.served();
        x.serve(0);
        Edge.is("two", x.served(), 2);
        x.goBack(0);
        Edge.is("as in the snapshot", x.served() + " " + x.fetches() + " " + x.ticks(), "0 2 4");
    }

    private static void fetchTicks() {
        Edge.of(67, "Tells the ticks of fetching a shelf now.");
        // The lift is at 3; the shelves are at 0 in front, 0 behind, 2 and 3 in front.
        Edge.each(Edge.rich(), GlideShelves::fetchTicks, 3, 5, 3, 3);
        Edge.each(Edge.served(), GlideShelves::fetchTicks, 3, 5, 3, 3);
        Edge.of(67, "Returns the ticks.");
        for (int shelf = 0; shelf < 4; shelf++) {
            GlideShelves x = Edge.rich();
            Edge.move(x, 2, 1, 11);
            Edge.is("of " + shelf, x.fetchTicks(shelf), x.fetch(shelf));
        }
        GlideShelves far = Edge.rich();
        Edge.move(far, 2, 1, 11);
        Edge.each(far, GlideShelves::fetchTicks, 11, 13, 13, 11);
    }

    private static void found() {
        Edge.of(68, "Finds the heaviest shelf.");
        Edge.is("7, 15, 0 and 5", Edge.rich().heaviest() + " " + Edge.atWindow().heaviest(), "1 1");
        GlideShelves x = Edge.rich();
        x.changeWeight(0, 3);
        Edge.is("21, 15, 0 and 13", x.heaviest(), 0);
        x.serve(0);
        Edge.is("0, 15, 0 and 7", x.heaviest(), 1);
        Check.restock(x, 3, 2, 9);
        Edge.is("0, 15, 0 and 16", x.heaviest(), 3);
        x.scrap(2);
        Edge.is("1 less", x.heaviest(), 2);
        Edge.of(69, "Finds the shelf that was fetched most often.");
        Edge.is("once, once, never and once", Edge.rich().mostFetched(), 0);
        Edge.is("once, twice, never and once", Edge.atWindow().mostFetched(), 1);
        Edge.is("twice, once, never and twice", Edge.served().mostFetched(), 0);
        GlideShelves y = Edge.rich();
        Edge.use(y, 2, 2);
        Edge.is("once, once, twice and once", y.mostFetched(), 2);
        Edge.use(y, 3, 2);
        Edge.is("once, once, twice and three times", y.mostFetched(), 3);
    }

    private static void means() {
        Edge.of(70, "Returns the sum.");
        // The ways are 0, 2, 2 and 3.
        Edge.is("2 and 3", Edge.rich().usedWays(), 5);
        Edge.is("twice 2 and 3", Edge.atWindow().usedWays(), 7);
        Edge.is("2 and twice 3", Edge.served().usedWays(), 8);
        Edge.of(71, "Returns the mean way, by use.");
        Edge.is("5 by 3", Edge.rich().meanWay(), 5.0 / 3.0);
        Edge.is("7 by 4", Edge.atWindow().meanWay(), 1.75);
        Edge.is("8 by 5", Edge.served().meanWay(), 1.6);
        Edge.of(72, "Returns the mean of the ticks for each fetching.");
        Edge.is("13 by 3", Edge.rich().meanTicks(), 13.0 / 3.0);
        Edge.is("18 by 4", Edge.atWindow().meanTicks(), 4.5);
        Edge.is("25 by 5", Edge.served().meanTicks(), 5.0);
    }

    private long hash = 0L;

    private void add(long... values) {
        for (long value : values) {
            hash = 31L * hash + value;
        }
    }

    /** The values of rich(), written out by hand, from this start on. */
    private static long ofRich(long start, int lastLetter) {
        SaysAccountsTest list = new SaysAccountsTest();
        list.hash = start;
        list.add(4);
        list.add(2, 0, 0, 0, 7, 0, 0, 0, 0, 0, 0, 0, 0, 0, 7, 1);
        list.add(4, 1, 0, 0, 0, 5, 0, 0, 0, 0, 0, 0, 0, 0, 15, 1);
        list.add(1, 0, 2, 0, 0, 0, 0, 0, 0, 0, 0, 0, 0, 0, 0, 0);
        list.add(3, 0, 3, 0, 4, 0, 1, 0, 0, 0, 0, 0, 0, 0, 5, 1);
        list.add(1, 1, 3, 4, 4, 4, 0, 0, 0, 0, 0, 0, 0, 0, 0, 0, 0, 0, 0, 0);
        list.add(2, 2, 2, 2, 0, 0, 0, 0, 0, 0, 0, 0, 0, 0, 0, 0, 0, 0, 0, 0);
        list.add(30, 30, 25, 25, 25, 25, 14, 16, 3, 1);
        list.add(1, 11, 11, 2, 0, 0);
        list.add(3, 5, 5, 1, 0, 0);
        list.add(1, 1, 1, 1, 9, 8);
        for (int kind = 3; kind < 10; kind++) {
            list.add(1, 0, 0, 0, 0, 0);
        }
        list.add(4, 12, 15);
        list.add(6, 3, 0, 6, 1, 2, 0, 2, 1, 0, 0, 0, 1);
        list.add(3);
        list.add(9, 0, 0, 0, 0, 0, 0, 0, 0, 0, 1, 2, 2, 9);
        list.add(0, 2, 1, 0, 0, 0, 0, 0, 0, 0, 1, 2, 2, 10);
        list.add(0, 0, 0, 0, 0, 1, 0, 0, 0, 0, 0);
        list.add(1);
        list.add(13, 3, 0, 2, 1, 5, 6);
        list.add(Double.doubleToLongBits(13.0 / 3.0), Double.doubleToLongBits(5.0 / 3.0));
        list.add(1, 1, 2, '7', lastLetter);
        return list.hash;
    }

    private static void digest() {
        Edge.of(73, "The values are: shelves; for each shelf heightOf, sideOf, slotOf, 1 if it is at the window, otherwise 0,"
                + " thingsIn of each kind, weightOf, fetchesOf; for each slot of the side 0, then of the side 1, the shelf and"
                + " 1, together, 0 if it is free; freeBySlots, freeByHeights; for each height the first place and 1, together,"
                + " 0 if there is none; longestGap of both sides; lift, 1 if shelves are stowed where they were, otherwise 0;"
                + " for each kind weightOfKind, stockByShelves, stockByAccount, shelvesWith, leastOf, missingOf; shortKinds;"
                + " sideWeight of both sides; trips, for each tripTicks, 1 if it was a fetching, otherwise 0; orders; for each"
                + " order wanted of each kind, 1 if it can be served, otherwise 0, and if it can fewestByTrying, fewestByGoing,"
                + " choiceFor; the cheapest order and 1, together, 0 if cheapestOrder() throws; ticks, fetches, served, the"
                + " heaviest shelf and 1, together, the most often fetched one and 1, together, 0 for both if there is none,"
                + " usedWays, savedStates; the bits of meanTicks and of meanWay (as Double.doubleToLongBits); for each slot for"
                + " snapshots 1 if it has one, otherwise 0; the length of the buffer and each of its character codes.");
        Edge.is("all by hand", Edge.rich().digest(), ofRich(4349L, '*'));
        Edge.of(73, "The hash starts at 4349.");
        for (long start = 4340L; start < 4360L; start++) {
            Edge.is("at " + start, Edge.rich().digest() == ofRich(start, '*'), start == 4349L);
        }
        Edge.of(73, "Returns the hash.");
        GlideShelves x = Edge.rich();
        Edge.is("once more", x.digest() + " " + x.digest(), ofRich(4349L, '*') + " " + ofRich(4349L, '*'));
        x.clearBuffer();
        Check.type(x, "7+");
        Edge.is("with another sign", x.digest(), ofRich(4349L, '+'));
    }

    private static void ofTheWholeState() {
        Edge.of(73, "Computes a hash of the whole state.");
        Edge.Act[] calls = {x -> x.addShelf(1), x -> x.scrap(2), x -> x.fetch(0), x -> x.changeLeast(9, 1), x -> x.changeWeight(9, 2),
            x -> x.turnRule(), x -> x.serve(0), x -> x.cancel(2), x -> x.pack(), x -> x.undo(), x -> x.append('1'),
            x -> x.clearBuffer(), x -> x.goBack(0)};
        for (int i = 0; i < calls.length; i++) {
            GlideShelves x = Edge.rich();
            calls[i].on(x);
            Edge.is("call " + i + " changes it", x.digest() == Edge.rich().digest(), false);
            for (int j = 0; j < i; j++) {
                GlideShelves y = Edge.rich();
                calls[j].on(y);
                Edge.is("calls " + i + " and " + j + " change it otherwise", x.digest() == y.digest(), false);
            }
        }
        GlideShelves x = new GlideShelves();
        long before = x.digest();
        x.keep(0);
        Edge.is("a snapshot changes it", x.digest() == before, false);
    }

    public static void main(String[] args) {
        sums();
        fetchTicks();
        found();
        means();
        digest();
        ofTheWholeState();
        Edge.end("SaysAccountsTest");
    }
}
