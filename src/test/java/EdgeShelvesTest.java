/** Edges of a new object and of the calls for shelves: promises 1 to 6, 8 and 9. */
public final class EdgeShelvesTest {
    private static final int MOST = Integer.MAX_VALUE;
    private static final int LEAST = Integer.MIN_VALUE;

    private EdgeShelvesTest() {
    }

    private static void promise1() {
        Edge.of(1, "Creates an empty tower, without orders, with empty slots for snapshots and an empty buffer.");
        GlideShelves x = new GlideShelves();
        Edge.is("shelves and orders", x.shelves() + " " + x.orders(), "0 0");
        for (int place = 0; place < 40; place++) {
            Edge.is("slot " + place, x.isFree(place / 20, place % 20), true);
        }
        Edge.is("the buffer", x.firstError() + " " + x.clearBuffer(), "0 0");
        Edge.is("the lift", x.lift() + " " + x.isKeptPlace() + " " + x.trips(), "0 true 0");
        Edge.is("accounts", x.ticks() + " " + x.fetches() + " " + x.served() + " " + x.usedWays(), "0 0 0 0");
        Edge.refuses(Edge.STATE, GlideShelves::new, y -> y.goBack(0));
        Edge.refuses(Edge.STATE, GlideShelves::new, y -> y.goBack(1));
        Edge.refuses(Edge.STATE, GlideShelves::new, GlideShelves::undo);
        Edge.refuses(Edge.STATE, GlideShelves::new, GlideShelves::atWindow);
        GlideShelves one = Check.tower(4);
        one.turnRule();
        Edge.is("not like another one", new GlideShelves().shelves() + " " + new GlideShelves().isKeptPlace(), "0 true");
    }

    private static void promise2Heights() {
        Edge.of(2, "- `height`: 1 to 4: how many slots it takes");
        for (int height = 1; height <= 4; height++) {
            GlideShelves x = new GlideShelves();
            Edge.is("its number", x.addShelf(height), 0);
            Edge.is("its height", x.heightOf(0), height);
            Edge.is("its slots", 40 - x.freeBySlots(), height);
        }
        Edge.of(2, "Throws `IllegalArgumentException` if height is out of range");
        int[] wrongs = Edge.outside(1, 4);
        Edge.refusesEach(Edge.ARGUMENT, GlideShelves::new, wrongs, GlideShelves::addShelf);
        Edge.refusesEach(Edge.ARGUMENT, Edge::rich, wrongs, GlideShelves::addShelf);
        // Named before the other one.
        Edge.refusesEach(Edge.ARGUMENT, Edge::atWindow, wrongs, GlideShelves::addShelf);
        Edge.refusesEach(Edge.ARGUMENT, Edge::twelve, wrongs, GlideShelves::addShelf);
        Edge.refusesEach(Edge.ARGUMENT, Edge::full, wrongs, GlideShelves::addShelf);
    }

    private static void promise2NoRoom() {
        Edge.of(2, "Throws `IllegalStateException` if there are 12 shelves, a shelf is at the window, or no place fits");
        int[] heights = {1, 2, 3, 4};
        GlideShelves x = Check.tower(1, 1, 1, 1, 1, 1, 1, 1, 1, 1, 1);
        Edge.is("the 12th", x.addShelf(4) + " " + x.shelves(), "11 12");
        Edge.refusesEach(Edge.STATE, Edge::twelve, heights, GlideShelves::addShelf);
        x.scrap(0);
        Edge.is("the 12th anew", x.addShelf(1), 11);
        Edge.refusesEach(Edge.STATE, Edge::atWindow, heights, GlideShelves::addShelf);
        GlideShelves y = Edge.atWindow();
        y.stow();
        Edge.is("after stowing", y.addShelf(1), 4);
        Edge.refusesEach(Edge.STATE, Edge::full, heights, GlideShelves::addShelf);
        Edge.refuses(Edge.STATE, Edge::threeFree, z -> z.addShelf(4));
        for (int height = 1; height <= 3; height++) {
            Edge.is("into a row of 3", Edge.threeFree().addShelf(height), 10);
        }
        GlideShelves scattered = Edge.threeFree();
        Edge.move(scattered, 9, 1, 17);
        Edge.is("4 are free, 1 and 2 side by side", scattered.freeBySlots() + " " + scattered.longestGap(1), "3 2");
        Edge.is("2 fit", scattered.addShelf(2), 10);
        Edge.is("the last slot", scattered.addShelf(1) + " " + Edge.place(scattered, 11), "11 36");
        GlideShelves full = Edge.full();
        full.scrap(3);
        Edge.is("after scrapping", full.addShelf(4) + " " + Edge.place(full, 9), "9 24");
    }

    private static void promise2Empty() {
        Edge.of(2, "Adds an empty shelf; it comes to the first place that fits. Undoable.");
        GlideShelves x = Edge.rich();
        x.scrap(2);
        Edge.is("with the number of a scrapped one", x.addShelf(1), 3);
        for (int kind = 0; kind < 10; kind++) {
            Edge.is("without things", x.thingsIn(3, kind), 0);
        }
        Edge.is("never fetched, weighs nothing", x.fetchesOf(3) + " " + x.weightOf(3), "0 0");
        Edge.is("the first place", Edge.place(x, 3), 2);
        Edge.is("the lift stays", x.lift() + " " + x.trips(), Edge.rich().lift() + " " + Edge.rich().trips());
        GlideShelves y = new GlideShelves();
        y.addShelf(1);
        y.undo();
        Edge.is("undone", y.shelves() + " " + y.freeBySlots(), "0 40");
    }

    private static void promise3() {
        Edge.of(3, "- `shelf`: the number of the shelf");
        Edge.is("the first of 12", Edge.twelve().scrap(0), 1);
        Edge.is("the last of 12", Edge.twelve().scrap(11), 1);
        Edge.is("the only one", Check.tower(4).scrap(0), 4);
        Edge.of(3, "Throws `IndexOutOfBoundsException` if there is no such shelf");
        Edge.refusesEach(Edge.INDEX, GlideShelves::new, Edge.outside(0, -1), GlideShelves::scrap);
        Edge.refuses(Edge.INDEX, GlideShelves::new, x -> x.scrap(0));
        Edge.refusesEach(Edge.INDEX, Edge::rich, Edge.outside(0, 3), GlideShelves::scrap);
        Edge.refusesEach(Edge.INDEX, Edge::atWindow, Edge.outside(0, 3), GlideShelves::scrap);
        Edge.refusesEach(Edge.INDEX, Edge::twelve, Edge.outside(0, 11), GlideShelves::scrap);
        Edge.refuses(Edge.INDEX, () -> {
            GlideShelves x = Check.tower(1, 1);
            x.scrap(1);
            return x;
        }, x -> x.scrap(1));
    }

    private static void promise3NotEmpty() {
        Edge.of(3, "Throws `IllegalStateException` if it is not empty, or at the window");
        for (int kind = 0; kind < 10; kind++) {
            int k = kind;
            Edge.refuses(Edge.STATE, () -> {
                GlideShelves x = Check.tower(1, 1);
                Check.restock(x, 1, k, 1);
                return x;
            }, x -> x.scrap(1));
        }
        Edge.refuses(Edge.STATE, Edge::rich, x -> x.scrap(0));
        Edge.refuses(Edge.STATE, Edge::atWindow, x -> x.scrap(1));
        Edge.refuses(Edge.STATE, () -> {
            GlideShelves x = Edge.rich();
            x.fetch(2);
            return x;
        }, x -> x.scrap(2));
        GlideShelves x = Edge.atWindow();
        Edge.is("an empty one, with another one at the window", x.scrap(2) + " " + x.atWindow(), "1 1");
        GlideShelves taken = Edge.rich();
        taken.fetch(1);
        taken.take(1, 5);
        taken.stow();
        Edge.is("emptied by taking", taken.scrap(1), 4);
        GlideShelves served = Check.tower(3);
        Check.restock(served, 0, 9, 2);
        Check.order(served, "9*2");
        served.serve(0);
        Edge.is("emptied by serving", served.scrap(0), 3);
    }

    private static void promise3Numbers() {
        Edge.of(3, "Takes an empty shelf out of the tower for good; those added later have numbers that are 1 less.");
        GlideShelves x = Edge.rich();
        Edge.is("its height", x.scrap(2), 1);
        Edge.is("those before", x.heightOf(0) + " " + x.heightOf(1) + " " + x.thingsIn(1, 1), "2 4 5");
        Edge.is("the one after", x.heightOf(2) + " " + x.thingsIn(2, 0) + " " + x.fetchesOf(2) + " "
                + Edge.place(x, 2), "3 4 1 3");
        Edge.is("its slot is free", x.isFree(0, 2) + " " + x.shelfAt(0, 3), "true 2");
        Edge.is("its weight", x.weightOf(2), 5);
        GlideShelves y = Edge.twelve();
        Edge.use(y, 5, 1);
        y.fetch(11);
        y.scrap(0);
        Edge.is("the one at the window, too", y.atWindow() + " " + y.isAtWindow(10) + " " + y.isAtWindow(9), "10 true false");
        Edge.is("and the one that was used", y.fetchesOf(4), 1);
        Edge.is("stowed where it was", y.stow() + " " + Edge.place(y, 10), "7 25");
        GlideShelves z = Edge.twelve();
        z.fetch(0);
        z.scrap(11);
        Edge.is("not that of one before", z.atWindow(), 0);
    }

    private static void promise4() {
        Edge.of(4, "- `shelf`: the number of the shelf");
        Edge.is("the first of 12", Edge.twelve().fetch(0), 0);
        Edge.is("the last of 12", Edge.twelve().fetch(11), 12);
        Edge.of(4, "Throws `IndexOutOfBoundsException` if there is no such shelf");
        Edge.refuses(Edge.INDEX, GlideShelves::new, x -> x.fetch(0));
        Edge.refusesEach(Edge.INDEX, Edge::rich, Edge.outside(0, 3), GlideShelves::fetch);
        Edge.refusesEach(Edge.INDEX, Edge::twelve, Edge.outside(0, 11), GlideShelves::fetch);
        // Named before the other one.
        Edge.refusesEach(Edge.INDEX, Edge::atWindow, Edge.outside(0, 3), GlideShelves::fetch);
        Edge.of(4, "Throws `IllegalStateException` if a shelf is at the window");
        Edge.refusesEach(Edge.STATE, Edge::atWindow, new int[] {0, 1, 2, 3}, GlideShelves::fetch);
        GlideShelves x = Edge.atWindow();
        x.stow();
        Edge.is("after stowing", x.fetch(3), 6);
        GlideShelves y = Edge.atWindow();
        y.undo();
        Edge.is("after undoing", y.fetch(3), 3);
    }

    private static void promise5() {
        Edge.of(5, "Throws `IllegalStateException` if there is none");
        Edge.refuses(Edge.STATE, GlideShelves::new, GlideShelves::stow);
        Edge.refuses(Edge.STATE, Edge::rich, GlideShelves::stow);
        Edge.refuses(Edge.STATE, () -> {
            GlideShelves x = Edge.atWindow();
            x.stow();
            return x;
        }, GlideShelves::stow);
        Edge.is("there is one", Edge.atWindow().stow(), 2);
        GlideShelves y = Check.tower(1);
        y.fetch(0);
        Edge.is("the first one", y.stow(), 0);
    }

    private static void promise6Places() {
        Edge.of(6, "- `side`: 0 (in front) or 1 (behind)");
        GlideShelves x = Check.tower(1);
        x.fetch(0);
        Edge.is("in front", x.stowAt(0, 7) + " " + x.sideOf(0), "7 0");
        x.fetch(0);
        Edge.is("behind", x.stowAt(1, 7) + " " + x.sideOf(0), "9 1");
        Edge.of(6, "- `slot`: 0 to 19: the lowest one of the place");
        for (int side = 0; side < 2; side++) {
            x.fetch(0);
            Edge.is("the lowest slot", x.stowAt(side, 0) + " " + x.slotOf(0) + " " + x.lift(), 2 * side + " 0 0");
            x.fetch(0);
            Edge.is("the highest slot", x.stowAt(side, 19) + " " + x.slotOf(0) + " " + x.lift(), 19 + 2 * side + " 19 19");
        }
    }

    private static void promise6NoPlaces() {
        Edge.of(6, "Throws `IndexOutOfBoundsException` if there is no such side or slot");
        // Also named before the other one, where no shelf is at the window.
        for (Edge.Maker maker : new Edge.Maker[] {Edge::atWindow, Edge::rich, GlideShelves::new}) {
            Edge.refusesEach(Edge.INDEX, maker, Edge.outside(0, 1), (x, side) -> x.stowAt(side, 10));
            Edge.refusesEach(Edge.INDEX, maker, Edge.outside(0, 19), (x, slot) -> x.stowAt(0, slot));
            Edge.refusesEach(Edge.INDEX, maker, Edge.outside(0, 19), (x, slot) -> x.stowAt(1, slot));
            Edge.refuses(Edge.INDEX, maker, x -> x.stowAt(-1, 20));
            Edge.refuses(Edge.INDEX, maker, x -> x.stowAt(1, -20));
            Edge.refuses(Edge.INDEX, maker, x -> x.stowAt(LEAST, MOST));
            Edge.refuses(Edge.INDEX, maker, x -> x.stowAt(MOST, LEAST));
        }
    }

    /** In front, 0 at 10 and 1 at 14; 2, of 3 slots, is at the window and was at 1. */
    private static GlideShelves between() {
        GlideShelves x = Check.tower(1, 1, 3);
        Edge.move(x, 0, 0, 10);
        Edge.move(x, 1, 0, 14);
        x.fetch(2);
        return x;
    }

    private static void promise6DoesNotFit() {
        Edge.of(6, "Throws `IllegalStateException` if no shelf is at the window, or the place does not fit");
        Edge.refuses(Edge.STATE, GlideShelves::new, x -> x.stowAt(0, 0));
        Edge.refuses(Edge.STATE, Edge::rich, x -> x.stowAt(1, 19));
        Edge.is("just between", between().stowAt(0, 11), 11);
        Edge.is("just below", between().stowAt(0, 7), 7);
        Edge.is("just above", between().stowAt(0, 15), 15);
        Edge.is("the same slots behind", between().stowAt(1, 9), 11);
        Edge.is("over its own old place", between().stowAt(0, 3), 3);
        Edge.is("just where it was", between().stowAt(0, 1), 1);
        for (int slot : new int[] {8, 9, 10, 12, 13, 14}) {
            Edge.refuses(Edge.STATE, EdgeShelvesTest::between, x -> x.stowAt(0, slot));
        }
        for (int side = 0; side < 2; side++) {
            int s = side;
            Edge.is("the last three", between().stowAt(side, 17), 17 + 2 * side);
            Edge.refuses(Edge.STATE, EdgeShelvesTest::between, x -> x.stowAt(s, 18));
            Edge.refuses(Edge.STATE, EdgeShelvesTest::between, x -> x.stowAt(s, 19));
        }
        GlideShelves full = Edge.full();
        full.fetch(4);
        Edge.is("the only place of a full tower", full.stowAt(0, 8), 8);
        Edge.refuses(Edge.STATE, () -> {
            GlideShelves x = Edge.full();
            x.fetch(4);
            return x;
        }, x -> x.stowAt(0, 9));
    }

    private static void promise8Ranges() {
        Edge.of(8, "- `kind`: 0 to 9");
        Edge.is("the first", Edge.atWindow().fill(0, 1), 1);
        Edge.is("the last", Edge.atWindow().fill(9, 1), 1);
        Edge.of(8, "- `many`: 1 to 20");
        Edge.is("the fewest", Edge.atWindow().fill(1, 1), 6);
        Edge.is("the most", Edge.atWindow().fill(1, 20), 25);
        Edge.of(8, "Throws `IndexOutOfBoundsException` if there is no such kind");
        int[] kinds = Edge.outside(0, 9);
        Edge.refusesEach(Edge.INDEX, Edge::atWindow, kinds, (x, kind) -> x.fill(kind, 1));
        // Named before both others.
        Edge.refusesEach(Edge.INDEX, Edge::atWindow, kinds, (x, kind) -> x.fill(kind, 0));
        Edge.refusesEach(Edge.INDEX, Edge::rich, kinds, (x, kind) -> x.fill(kind, 1));
        Edge.refusesEach(Edge.INDEX, Edge::rich, kinds, (x, kind) -> x.fill(kind, 21));
        Edge.refusesEach(Edge.INDEX, () -> laden(150), kinds, (x, kind) -> x.fill(kind, 1));
        Edge.of(8, "Throws `IllegalArgumentException` if many is out of range");
        int[] manys = Edge.outside(1, 20);
        Edge.refusesEach(Edge.ARGUMENT, Edge::atWindow, manys, (x, many) -> x.fill(1, many));
        // Named before the other one.
        Edge.refusesEach(Edge.ARGUMENT, Edge::rich, manys, (x, many) -> x.fill(1, many));
        Edge.refusesEach(Edge.ARGUMENT, GlideShelves::new, manys, (x, many) -> x.fill(9, many));
        Edge.refusesEach(Edge.ARGUMENT, () -> laden(150), manys, (x, many) -> x.fill(9, many));
    }

    /** A shelf at the window of just this weight, 9 a thing of the kind 9, by things of the kinds 9 and 0. */
    private static GlideShelves laden(int weight) {
        GlideShelves x = Check.tower(1, 1);
        Check.restock(x, 1, 0, 20);
        x.changeWeight(9, 9);
        x.fetch(0);
        if (weight >= 9) {
            x.fill(9, weight / 9);
        }
        if (weight % 9 > 0) {
            x.fill(0, weight % 9);
        }
        return x;
    }

    private static void promise8TooHeavy() {
        Edge.of(8, "Throws `IllegalStateException` if no shelf is at the window, or it would be too heavy");
        Edge.refuses(Edge.STATE, GlideShelves::new, x -> x.fill(0, 1));
        Edge.refuses(Edge.STATE, Edge::rich, x -> x.fill(0, 1));
        GlideShelves x = laden(141);
        Edge.is("150", x.fill(9, 1) + " " + x.weightOf(0), "16 150");
        Edge.refuses(Edge.STATE, () -> laden(142), y -> y.fill(9, 1));
        Edge.is("150 by 20", laden(130).fill(1, 20), 20);
        Edge.refuses(Edge.STATE, () -> laden(131), y -> y.fill(1, 20));
        Edge.is("149 and 1", laden(149).fill(1, 1), 1);
        Edge.is("144 of nothing", laden(0).fill(9, 16), 16);
        Edge.refuses(Edge.STATE, () -> laden(0), y -> y.fill(9, 17));
        Edge.refuses(Edge.STATE, () -> laden(0), y -> y.fill(9, 20));
        Edge.refusesEach(Edge.STATE, () -> laden(150), new int[] {0, 1, 8, 9}, (y, kind) -> y.fill(kind, 1));
        GlideShelves other = laden(150);
        other.stow();
        other.fetch(1);
        Edge.is("another shelf is not too heavy", other.fill(0, 20), 40);
        GlideShelves emptied = laden(150);
        emptied.take(9, 1);
        Edge.is("after taking", emptied.fill(9, 1), 16);
    }

    /** A shelf at the window with 20 things of the kind 0 and 30 of the kind 9. */
    private static GlideShelves takeable() {
        GlideShelves x = Edge.rich();
        x.fetch(2);
        x.fill(0, 20);
        x.fill(9, 20);
        x.fill(9, 10);
        return x;
    }

    private static void promise9Ranges() {
        Edge.of(9, "- `kind`: 0 to 9");
        Edge.is("the first", takeable().take(0, 1), 19);
        Edge.is("the last", takeable().take(9, 1), 29);
        Edge.of(9, "- `many`: 1 to 20");
        Edge.is("the most", takeable().take(9, 20), 10);
        Edge.is("the most, all", takeable().take(0, 20), 0);
        Edge.of(9, "Throws `IndexOutOfBoundsException` if there is no such kind");
        int[] kinds = Edge.outside(0, 9);
        Edge.refusesEach(Edge.INDEX, EdgeShelvesTest::takeable, kinds, (x, kind) -> x.take(kind, 1));
        // Named before both others.
        Edge.refusesEach(Edge.INDEX, EdgeShelvesTest::takeable, kinds, (x, kind) -> x.take(kind, 0));
        Edge.refusesEach(Edge.INDEX, Edge::rich, kinds, (x, kind) -> x.take(kind, 1));
        Edge.refusesEach(Edge.INDEX, GlideShelves::new, kinds, (x, kind) -> x.take(kind, 21));
        Edge.of(9, "Throws `IllegalArgumentException` if many is out of range");
        int[] manys = Edge.outside(1, 20);
        Edge.refusesEach(Edge.ARGUMENT, EdgeShelvesTest::takeable, manys, (x, many) -> x.take(9, many));
        // Named before the other one.
        Edge.refusesEach(Edge.ARGUMENT, EdgeShelvesTest::takeable, manys, (x, many) -> x.take(5, many));
        Edge.refusesEach(Edge.ARGUMENT, Edge::rich, manys, (x, many) -> x.take(0, many));
        Edge.refusesEach(Edge.ARGUMENT, GlideShelves::new, manys, (x, many) -> x.take(9, many));
    }

    private static void promise9NotSoMany() {
        Edge.of(9, "Throws `IllegalStateException` if no shelf is at the window, or it has not so many");
        Edge.refuses(Edge.STATE, GlideShelves::new, x -> x.take(0, 1));
        Edge.refuses(Edge.STATE, Edge::rich, x -> x.take(0, 1));
        Edge.is("as many", Edge.atWindow().take(1, 5), 0);
        Edge.refuses(Edge.STATE, Edge::atWindow, x -> x.take(1, 6));
        Edge.refuses(Edge.STATE, Edge::atWindow, x -> x.take(1, 20));
        // Other shelves have some of the kind 0, this one has none.
        Edge.refuses(Edge.STATE, Edge::atWindow, x -> x.take(0, 1));
        Edge.refuses(Edge.STATE, () -> {
            GlideShelves x = Edge.atWindow();
            x.take(1, 5);
            return x;
        }, x -> x.take(1, 1));
        Edge.refuses(Edge.STATE, () -> {
            GlideShelves x = Edge.atWindow();
            x.stow();
            return x;
        }, x -> x.take(1, 1));
    }

    public static void main(String[] args) {
        promise1();
        promise2Heights();
        promise2NoRoom();
        promise2Empty();
        promise3();
        promise3NotEmpty();
        promise3Numbers();
        promise4();
        promise5();
        promise6Places();
        promise6NoPlaces();
        promise6DoesNotFit();
        promise8Ranges();
        promise8TooHeavy();
        promise9Ranges();
        promise9NotSoMany();
        Edge.end("EdgeShelvesTest");
    }
}
