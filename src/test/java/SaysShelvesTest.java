/** What the calls for shelves say, sentence by sentence, where no test of edges asks it: promises 2 to 9. */
public final class SaysShelvesTest {
    private SaysShelvesTest() {
    }

    private static void addShelf() {
        Edge.of(2, "Returns the number of the shelf.");
        GlideShelves x = new GlideShelves();
        for (int shelf = 0; shelf < 12; shelf++) {
            int height = 1 + shelf * 5 % 4;
            Edge.is("the next one", x.addShelf(height), shelf);
            Edge.is("this is its number", x.heightOf(shelf), height);
        }
        x.scrap(2);
        x.scrap(7);
        Edge.is("after scrapping two", x.addShelf(4) + " " + x.heightOf(10), "10 4");
    }

    private static void scrap() {
        Edge.of(3, "Undoable.");
        Edge.undoable(Edge::rich, x -> x.scrap(2));
        Edge.undoable(Edge::twelve, x -> x.scrap(0));
        Edge.undoable(Edge::atWindow, x -> x.scrap(2));
        Edge.of(3, "Returns its height.");
        GlideShelves x = Check.tower(3, 1, 4, 2);
        Edge.is("of 1", x.scrap(1), 1);
        Edge.is("of the last one", x.scrap(2), 2);
        Edge.is("of the first one", x.scrap(0), 3);
        Edge.is("of the one that is left", x.scrap(0) + " " + x.shelves(), "4 0");
    }

    private static void fetch() {
        int[] dues = {3, 5, 3, 3};
        for (int shelf = 0; shelf < 4; shelf++) {
            GlideShelves x = Edge.rich();
            Edge.of(4, "Returns the ticks of that.");
            // The lift is at 3; the shelves are at 0 in front, 0 behind, 2 and 3 in front.
            Edge.is("of " + shelf, x.fetch(shelf), dues[shelf]);
            Edge.is("of the trip " + shelf, x.tripTicks(0) + " " + x.ticks(), dues[shelf] + " " + (13 + dues[shelf]));
            Edge.of(4, "The lift fetches a shelf to the window.");
            Edge.is("it is at the window", x.atWindow() + " " + x.isAtWindow(shelf), shelf + " true");
            Edge.is("so is the lift", x.lift() + " " + x.wasFetch(0), "0 true");
            Edge.is("its slots are free", x.freeBySlots(), 30 + x.heightOf(shelf));
            Edge.is("it was fetched once more", x.fetchesOf(shelf) + " " + x.fetches(), (shelf == 2 ? 1 : 2) + " 4");
        }
        Edge.of(4, "Undoable.");
        Edge.undoable(Edge::rich, x -> x.fetch(3));
        Edge.undoable(Edge::twelve, x -> x.fetch(11));
    }

    private static void stow() {
        int[] ways = {0, 2, 2, 3};
        int[] places = {0, 20, 2, 3};
        for (int shelf = 0; shelf < 4; shelf++) {
            GlideShelves x = Edge.rich();
            int before = x.fetch(shelf) + 13;
            Edge.of(5, "Returns the ticks of that.");
            Edge.is("of " + shelf, x.stow(), ways[shelf]);
            Edge.is("of the trip " + shelf, x.tripTicks(0) + " " + x.ticks(), ways[shelf] + " " + (before + ways[shelf]));
            Edge.of(5, "The lift stows the shelf that is at the window.");
            Edge.is("where it was", Edge.place(x, shelf), places[shelf]);
            Edge.is("it is not at the window", x.isAtWindow(shelf) + " " + x.freeBySlots(), "false 30");
            Edge.is("the lift is there", x.lift() + " " + x.wasFetch(0), places[shelf] % 20 + " false");
        }
        GlideShelves far = Edge.rich();
        Edge.move(far, 2, 0, 19);
        far.turnRule();
        far.fetch(2);
        Edge.is("at the first place that fits", far.stow() + " " + Edge.place(far, 2) + " " + far.lift(), "2 2 2");
        Edge.of(5, "Undoable.");
        Edge.undoable(Edge::atWindow, GlideShelves::stow);
        Edge.undoable(() -> {
            GlideShelves x = Edge.atWindow();
            x.turnRule();
            return x;
        }, GlideShelves::stow);
    }

    /** The shelf 2, of 1, to each slot that the others leave free: 2 and 6 to 19 in front, 4 to 19 behind. */
    private static void stowAt() {
        int free = 0;
        for (int place = 0; place < 40; place++) {
            GlideShelves x = Edge.rich();
            x.fetch(2);
            if (x.isFree(place / 20, place % 20)) {
                free++;
                int due = place < 20 ? place : place - 18;
                Edge.of(6, "Returns the ticks of that.");
                Edge.is("to " + place, x.stowAt(place / 20, place % 20), due);
                Edge.is("of the trip", x.tripTicks(0) + " " + x.ticks(), due + " " + (13 + 3 + due));
                Edge.of(6, "The lift stows the shelf that is at the window at a place of choice.");
                Edge.is("it is there", Edge.place(x, 2) + " " + x.shelfAt(place / 20, place % 20), place + " 2");
                Edge.is("not at the window", x.isAtWindow(2) + " " + x.freeBySlots(), "false 30");
                Edge.is("the lift is there", x.lift() + " " + x.wasFetch(0), place % 20 + " false");
            }
        }
        Edge.is("slots that are free", free, 31);
        Edge.of(6, "Undoable.");
        Edge.undoable(Edge::atWindow, x -> x.stowAt(1, 16));
        Edge.undoable(Edge::atWindow, x -> x.stowAt(0, 6));
    }

    private static void pack() {
        Edge.of(7, "Packs the tower by hand: all shelves, by how often they were fetched, the most often one first, of like ones"
                + " by their numbers, come into the empty tower, each to the first place that fits.");
        GlideShelves x = Edge.rich();
        // All but 2 were fetched once: 0 to 0 in front, 1 to 0 behind, 3 to 2 in front, 2 to 4 behind.
        Edge.is("two move", x.pack(), 2);
        Edge.each(x, Edge::place, 0, 20, 24, 2);
        GlideShelves low = Check.tower(4, 3, 1, 1);
        Edge.use(low, 2, 2);
        Edge.use(low, 3, 1);
        // 2 to 0 in front, 3 to 0 behind, 0 to 1 in front, 1 to 1 behind.
        Edge.is("all move", low.pack(), 4);
        Edge.each(low, Edge::place, 1, 21, 0, 20);
        GlideShelves gap = Check.tower(4, 3, 2, 1);
        Edge.move(gap, 0, 1, 10);
        Edge.use(gap, 3, 2);
        // 3 to 0 in front, 0 to 0 behind, 1 to 1 in front, 2 to 4 in front: the front is free there before the back.
        gap.pack();
        Edge.each(gap, Edge::place, 20, 1, 4, 0);
        Edge.of(7, "Undoable.");
        Edge.undoable(Edge::rich, GlideShelves::pack);
        Edge.undoable(Edge::twelve, GlideShelves::pack);
        Edge.undoable(GlideShelves::new, GlideShelves::pack);
    }

    private static void fill() {
        for (int kind = 0; kind < 10; kind++) {
            GlideShelves x = Edge.atWindow();
            int before = kind == 1 ? 5 : 0;
            int stock = x.stockByAccount(kind);
            Edge.of(8, "Returns how many of this kind it has then.");
            Edge.is("7 more of " + kind, x.fill(kind, 7), before + 7);
            Edge.is("8 more of " + kind, x.fill(kind, 8), before + 15);
            Edge.of(8, "Puts things into the shelf that is at the window.");
            for (int other = 0; other < 10; other++) {
                Edge.is("in it " + other, x.thingsIn(1, other), (other == 1 ? 5 : 0) + (other == kind ? 15 : 0));
            }
            Edge.is("none in the others", x.thingsIn(0, kind) + " " + x.thingsIn(2, kind) + " " + x.thingsIn(3, kind),
                    (kind == 0 ? 7 : 0) + " 0 " + (kind == 0 ? 4 : kind == 2 ? 1 : 0));
            Edge.is("of all", x.stockByShelves(kind) + " " + x.stockByAccount(kind), (stock + 15) + " " + (stock + 15));
        }
        Edge.of(8, "Undoable.");
        Edge.undoable(Edge::atWindow, x -> x.fill(1, 20));
        Edge.undoable(Edge::atWindow, x -> x.fill(9, 1));
    }

    /** As atWindow(), with 2 things of each kind more in the shelf 1: 7 of the kind 1, 2 of all others. */
    private static GlideShelves mixed() {
        GlideShelves x = Edge.atWindow();
        for (int kind = 0; kind < 10; kind++) {
            x.fill(kind, 2);
        }
        return x;
    }

    private static void take() {
        for (int kind = 0; kind < 10; kind++) {
            GlideShelves x = mixed();
            int before = kind == 1 ? 7 : 2;
            int stock = x.stockByAccount(kind);
            Edge.of(9, "Returns how many of this kind it has then.");
            Edge.is("1 less of " + kind, x.take(kind, 1), before - 1);
            Edge.is("all the rest of " + kind, x.take(kind, before - 1), 0);
            Edge.of(9, "Takes things out of the shelf that is at the window.");
            for (int other = 0; other < 10; other++) {
                Edge.is("in it " + other, x.thingsIn(1, other), other == kind ? 0 : other == 1 ? 7 : 2);
            }
            Edge.is("the others keep theirs", x.thingsIn(0, kind) + " " + x.thingsIn(3, kind),
                    (kind == 0 ? 7 : 0) + " " + (kind == 0 ? 4 : kind == 2 ? 1 : 0));
            Edge.is("of all", x.stockByShelves(kind) + " " + x.stockByAccount(kind), (stock - before) + " " + (stock - before));
        }
        Edge.of(9, "Undoable.");
        Edge.undoable(Edge::atWindow, x -> x.take(1, 5));
        Edge.undoable(SaysShelvesTest::mixed, x -> x.take(9, 1));
    }

    public static void main(String[] args) {
        addShelf();
        scrap();
        fetch();
        stow();
        stowAt();
        pack();
        fill();
        take();
        Edge.end("SaysShelvesTest");
    }
}
