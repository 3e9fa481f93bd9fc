import java.util.HashSet;
import java.util.Set;

/** The hash of the whole state: promise 73. */
public final class DigestTest {
    private long hash = 4349L;

    private DigestTest() {
    }

    private void add(long... values) {
        for (long value : values) {
            hash = 31L * hash + value;
        }
    }

    /** The list of the document for a new object, written out by hand. */
    private static long ofANewObject() {
        DigestTest list = new DigestTest();
        list.add(0);
        list.add(new long[40]);
        list.add(40, 40, 1, 1, 1, 1, 20, 20, 0, 1);
        for (int kind = 0; kind < 10; kind++) {
            list.add(1, 0, 0, 0, 0, 0);
        }
        list.add(0, 0, 0);
        list.add(0);
        list.add(0, 0);
        list.add(0, 0, 0, 0, 0, 0, 0);
        list.add(0, 0);
        list.add(0, 0);
        list.add(0);
        return list.hash;
    }

    /**
     * The list for two shelves: 0, of 2 at 0 in front, fetched with 3 of the kind 1 in it and stowed at 5
     * behind; 1, of 4 at 0 behind, fetched then. Two orders, 1*2 and 2*1; the weight of the kind 1 is 3, there
     * should be 9 of the kind 2; a snapshot in slot 1; "7*" in the buffer.
     */
    private static long ofABusyOne() {
        DigestTest list = new DigestTest();
        list.add(2);
        list.add(2, 1, 5, 0, 0, 3, 0, 0, 0, 0, 0, 0, 0, 0, 9, 1);
        list.add(4, 1, 0, 1, 0, 0, 0, 0, 0, 0, 0, 0, 0, 0, 0, 1);
        list.add(new long[20]);
        list.add(0, 0, 0, 0, 0, 1, 1, 0, 0, 0, 0, 0, 0, 0, 0, 0, 0, 0, 0, 0);
        list.add(38, 38, 1, 1, 1, 1, 20, 13, 0, 1);
        for (int kind = 0; kind < 10; kind++) {
            list.add(kind == 1 ? 3 : 1, kind == 1 ? 3 : 0, kind == 1 ? 3 : 0, kind == 1 ? 1 : 0);
            list.add(kind == 2 ? 9 : 0, kind == 2 ? 9 : 0);
        }
        list.add(1 << 2, 0, 9);
        // Fetched: 0; stowed: 7; fetched: 5 and 2.
        list.add(3, 7, 1, 7, 0, 0, 1);
        list.add(2);
        list.add(0, 2, 0, 0, 0, 0, 0, 0, 0, 0, 1, 1, 1, 1);
        list.add(0, 0, 1, 0, 0, 0, 0, 0, 0, 0, 0);
        list.add(0);
        list.add(14, 2, 0, 1, 1, 7 + 2, 6);
        list.add(Double.doubleToLongBits(7.0), Double.doubleToLongBits(4.5));
        list.add(0, 1);
        list.add(2, '7', '*');
        return list.hash;
    }

    private static GlideShelves busyOne() {
        GlideShelves x = Check.tower(2, 4);
        x.fetch(0);
        x.fill(1, 3);
        x.stowAt(1, 5);
        x.changeWeight(1, 3);
        x.changeLeast(2, 9);
        Check.order(x, "1*2");
        Check.order(x, "2*1");
        x.fetch(1);
        x.keep(1);
        Check.type(x, "7*");
        return x;
    }

    private static void promise73ByHand() {
        GlideShelves x = new GlideShelves();
        Check.is("73: a new object", x.digest(), ofANewObject());
        Check.is("73: once more", x.digest(), ofANewObject());
        Check.is("73: a busy one", busyOne().digest(), ofABusyOne());
    }

    private static void means(int over, int shelf) {
        GlideShelves x = Check.tower(2, 4, 1);
        for (int i = 0; i < over; i++) {
            x.fetch(0);
            x.stow();
        }
        x.fetch(shelf);
        x.stow();
        Check.is("73: " + over + ", " + shelf, new DigestTest().ofMeans(x), x.digest());
    }

    /** The list of the document by the public face, for an object without orders and snapshots. */
    private long ofMeans(GlideShelves x) {
        add(x.shelves());
        for (int shelf = 0; shelf < x.shelves(); shelf++) {
            add(x.heightOf(shelf), x.sideOf(shelf), x.slotOf(shelf), x.isAtWindow(shelf) ? 1 : 0);
            add(new long[10]);
            add(x.weightOf(shelf), x.fetchesOf(shelf));
        }
        for (int place = 0; place < 40; place++) {
            add(x.isFree(place / 20, place % 20) ? 0 : x.shelfAt(place / 20, place % 20) + 1);
        }
        add(x.freeBySlots(), x.freeByHeights());
        for (int height = 1; height <= 4; height++) {
            add(x.firstPlace(height) + 1);
        }
        add(x.longestGap(0), x.longestGap(1), x.lift(), x.isKeptPlace() ? 1 : 0);
        for (int kind = 0; kind < 10; kind++) {
            add(1, 0, 0, 0, 0, 0);
        }
        add(0, 0, 0, x.trips());
        for (int ago = 0; ago < x.trips(); ago++) {
            add(x.tripTicks(ago), x.wasFetch(ago) ? 1 : 0);
        }
        add(0, 0, x.ticks(), x.fetches(), x.served(), x.heaviest() + 1, x.mostFetched() + 1);
        add(x.usedWays(), x.savedStates());
        add(Double.doubleToLongBits(x.meanTicks()), Double.doubleToLongBits(x.meanWay()));
        add(0, 0, 0);
        return hash;
    }

    private static void promise73Means() {
        for (int over = 0; over < 40; over++) {
            means(over, 0);
            means(over, 1);
            means(over, 2);
        }
    }

    private static void promise73ToldByAll() {
        Set<Long> digests = new HashSet<>();
        GlideShelves x = new GlideShelves();
        digests.add(x.digest());
        Runnable[] calls = {() -> x.append(48), () -> x.append(42), () -> x.append(49), () -> x.accept(),
            () -> x.keep(0), () -> x.keep(1), () -> x.addShelf(2), () -> x.turnRule(), () -> x.fetch(0),
            () -> x.fill(0, 1), () -> x.stow(), () -> x.changeLeast(0, 1), () -> x.changeLeast(0, 2),
            () -> x.changeWeight(0, 2), () -> x.serveAll(), () -> x.undo(), () -> x.serve(0), () -> x.undo()};
        for (int i = 0; i < calls.length; i++) {
            calls[i].run();
            // Serving the only order is like serving all, and undoing the one like undoing the other.
            Check.is("73: changed by call " + i, digests.add(x.digest()), i < 16);
        }
    }

    public static void main(String[] args) {
        promise73ByHand();
        promise73Means();
        promise73ToldByAll();
        Check.end("DigestTest");
    }
}
