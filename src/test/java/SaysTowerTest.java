/** What is told of shelves, slots and the lift, where no test of edges asks it: promises 24 to 45. */
public final class SaysTowerTest {
    private SaysTowerTest() {
    }

    /** As rich(), with the shelf 1 at 16 behind: the ticks are 36, the lift is at 16. */
    private static GlideShelves moved() {
        GlideShelves x = Edge.rich();
        Edge.move(x, 1, 1, 16);
        return x;
    }

    private static void shelves() {
        Edge.of(24, "Returns how many shelves there are.");
        Edge.is("four", Edge.rich().shelves() + " " + Edge.atWindow().shelves(), "4 4");
        GlideShelves x = Edge.rich();
        x.scrap(2);
        Edge.is("three", x.shelves(), 3);
        x.addShelf(1);
        x.addShelf(1);
        Edge.is("five", x.shelves(), 5);
        x.undo();
        Edge.is("four again", x.shelves(), 4);
        x.goBack(0);
        Edge.is("as in the snapshot", x.shelves(), 4);
    }

    private static void heightOf() {
        Edge.of(25, "Returns the height of a shelf.");
        Edge.each(Edge.rich(), GlideShelves::heightOf, 2, 4, 1, 3);
        Edge.each(Edge.atWindow(), GlideShelves::heightOf, 2, 4, 1, 3);
        Edge.of(25, "Returns how many slots it takes.");
        for (int shelf = 0; shelf < 4; shelf++) {
            GlideShelves x = Edge.rich();
            int free = x.freeBySlots();
            x.fetch(shelf);
            Edge.is("of " + shelf, x.heightOf(shelf), x.freeBySlots() - free);
        }
    }

    private static void sideOfAndSlotOf() {
        Edge.of(26, "Returns the side of a shelf, or the one on which it was, if it is at the window.");
        Edge.each(Edge.rich(), GlideShelves::sideOf, 0, 1, 0, 0);
        Edge.each(Edge.atWindow(), GlideShelves::sideOf, 0, 1, 0, 0);
        GlideShelves x = moved();
        Edge.move(x, 2, 1, 3);
        Edge.each(x, GlideShelves::sideOf, 0, 1, 1, 0);
        x.fetch(2);
        Edge.each(x, GlideShelves::sideOf, 0, 1, 1, 0);
        Edge.of(27, "Returns the lowest slot of a shelf, or the one that it had, if it is at the window.");
        Edge.each(Edge.rich(), GlideShelves::slotOf, 0, 0, 2, 3);
        Edge.each(Edge.atWindow(), GlideShelves::slotOf, 0, 0, 2, 3);
        Edge.each(moved(), GlideShelves::slotOf, 0, 16, 2, 3);
        Edge.each(x, GlideShelves::slotOf, 0, 16, 3, 3);
        x.stowAt(0, 19);
        Edge.each(x, GlideShelves::slotOf, 0, 16, 19, 3);
    }

    private static void isAtWindow() {
        Edge.of(28, "Tells whether a shelf is at the window.");
        Edge.each(Edge.rich(), GlideShelves::isAtWindow, false, false, false, false);
        Edge.of(28, "Returns true if so.");
        Edge.each(Edge.atWindow(), GlideShelves::isAtWindow, false, true, false, false);
        GlideShelves x = Edge.rich();
        x.fetch(3);
        Edge.each(x, GlideShelves::isAtWindow, false, false, false, true);
        x.stow();
        Edge.each(x, GlideShelves::isAtWindow, false, false, false, false);
    }

    private static void thingsIn() {
        Edge.of(29, "Returns how many things of a kind a shelf has.");
        Edge.each(Edge.rich(), (x, shelf) -> x.thingsIn(shelf, 0), 7, 0, 0, 4);
        Edge.each(Edge.rich(), (x, shelf) -> x.thingsIn(shelf, 1), 0, 5, 0, 0);
        Edge.each(Edge.atWindow(), (x, shelf) -> x.thingsIn(shelf, 1), 0, 5, 0, 0);
        Edge.of(29, "Returns the things.");
        Edge.each(Edge.rich(), (x, kind) -> x.thingsIn(3, kind), 4, 0, 1, 0, 0, 0, 0, 0, 0, 0);
        Edge.each(Edge.served(), (x, kind) -> x.thingsIn(3, kind), 2, 0, 1, 0, 0, 0, 0, 0, 0, 0);
    }

    private static void weightOfAndFetchesOf() {
        Edge.of(30, "Returns how heavy a shelf is.");
        Edge.each(Edge.rich(), GlideShelves::weightOf, 7, 15, 0, 5);
        Edge.each(Edge.atWindow(), GlideShelves::weightOf, 7, 15, 0, 5);
        Edge.each(Edge.served(), GlideShelves::weightOf, 0, 15, 0, 3);
        Edge.of(31, "Returns how often a shelf was fetched so far.");
        Edge.each(Edge.rich(), GlideShelves::fetchesOf, 1, 1, 0, 1);
        Edge.each(Edge.atWindow(), GlideShelves::fetchesOf, 1, 2, 0, 1);
        Edge.each(Edge.served(), GlideShelves::fetchesOf, 2, 1, 0, 2);
        GlideShelves x = Edge.served();
        x.pack();
        x.stockByShelves(0);
        Edge.each(x, GlideShelves::fetchesOf, 2, 1, 0, 2);
        x.undo();
        x.undo();
        Edge.each(x, GlideShelves::fetchesOf, 1, 1, 0, 1);
    }

    private static void atWindow() {
        for (int shelf = 0; shelf < 4; shelf++) {
            GlideShelves x = Edge.rich();
            x.fetch(shelf);
            Edge.of(32, "Returns the shelf at the window.");
            Edge.is("of " + shelf, x.isAtWindow(x.atWindow()), true);
            Edge.of(32, "Returns the number of the shelf.");
            Edge.is("of " + shelf, x.atWindow(), shelf);
        }
        GlideShelves x = Edge.rich();
        x.fetch(3);
        x.scrap(2);
        Edge.is("1 less", x.atWindow(), 2);
    }

    /** The shelf of each slot, '.' if it is free. */
    private static String front(GlideShelves x, int side) {
        StringBuilder slots = new StringBuilder();
        for (int slot = 0; slot < 20; slot++) {
            slots.append(x.isFree(side, slot) ? "." : x.shelfAt(side, slot));
        }
        return slots.toString();
    }

    private static void isFreeAndShelfAt() {
        Edge.of(33, "Tells whether a slot is free.");
        Edge.each(Edge.rich(), (x, slot) -> x.isFree(0, slot), false, false, false, false, false, false, true, true);
        Edge.each(Edge.rich(), (x, slot) -> x.isFree(1, slot), false, false, false, false, true, true, true, true);
        Edge.of(33, "Returns true if so.");
        Edge.each(Edge.atWindow(), (x, slot) -> x.isFree(1, slot), true, true, true, true, true, true, true, true);
        Edge.each(moved(), (x, number) -> x.isFree(1, 14 + number), true, true, false, false, false, false);
        Edge.of(34, "Returns the shelf that takes a slot.");
        Edge.is("in front", front(Edge.rich(), 0), "002333..............");
        Edge.is("behind", front(Edge.rich(), 1), "1111................");
        Edge.is("behind, at the window", front(Edge.atWindow(), 1), "....................");
        Edge.is("behind, moved", front(moved(), 1), "................1111");
        Edge.of(34, "Returns the number of the shelf.");
        GlideShelves x = Edge.rich();
        x.scrap(2);
        Edge.is("1 less", front(x, 0), "00.222..............");
        x.addShelf(1);
        Edge.is("the last one", front(x, 0), "003222..............");
    }

    private static void free() {
        Edge.of(35, "Returns the slots.");
        Edge.is("all but 2, 4, 1 and 3", Edge.rich().freeBySlots(), 30);
        Edge.is("all but 2, 1 and 3", Edge.atWindow().freeBySlots(), 34);
        Edge.is("none", Edge.full().freeBySlots(), 0);
        Edge.of(36, "Tells how many slots are free, by the heights of the shelves that are in the tower.");
        Edge.is("all but 2, 4, 1 and 3", Edge.rich().freeByHeights(), 30);
        Edge.is("all but 2, 1 and 3", Edge.atWindow().freeByHeights(), 34);
        for (int height = 1; height <= 4; height++) {
            Edge.is("all but " + height, Check.tower(height).freeByHeights(), 40 - height);
        }
        GlideShelves x = Edge.rich();
        x.scrap(2);
        Edge.is("without the scrapped one", x.freeByHeights() + " " + x.freeBySlots(), "31 31");
    }

    private static void places() {
        Edge.of(37, "Finds the first place that fits a height.");
        Edge.each(Edge.rich(), (x, less) -> x.firstPlace(less + 1), 24, 24, 24, 24);
        Edge.each(Edge.atWindow(), (x, less) -> x.firstPlace(less + 1), 20, 20, 20, 20);
        GlideShelves x = Edge.rich();
        x.scrap(2);
        // Free are 2 in front, and all from 4 on behind and from 6 on in front.
        Edge.each(x, (y, less) -> y.firstPlace(less + 1), 2, 24, 24, 24);
        Edge.move(x, 1, 1, 6);
        // Free are 0 to 5 behind, too.
        Edge.each(x, (y, less) -> y.firstPlace(less + 1), 20, 20, 20, 20);
        Edge.move(x, 1, 1, 1);
        Edge.each(x, (y, less) -> y.firstPlace(less + 1), 20, 25, 25, 25);
        Edge.of(38, "Returns the slots.");
        Edge.each(Edge.rich(), GlideShelves::longestGap, 14, 16);
        Edge.each(Edge.atWindow(), GlideShelves::longestGap, 14, 20);
        Edge.each(moved(), GlideShelves::longestGap, 14, 16);
        GlideShelves gaps = Check.tower(1, 1, 1);
        Edge.move(gaps, 0, 0, 3);
        Edge.move(gaps, 1, 0, 9);
        Edge.move(gaps, 2, 0, 13);
        // Before, between and behind them: 3, 5, 3 and 6.
        Edge.each(gaps, GlideShelves::longestGap, 6, 20);
        Edge.move(gaps, 2, 0, 17);
        Edge.each(gaps, GlideShelves::longestGap, 7, 20);
    }

    private static void lift() {
        Edge.of(39, "Returns the slot at which the lift is.");
        Edge.is("where it stowed the shelf 3", Edge.rich().lift(), 3);
        Edge.is("at the window", Edge.atWindow().lift(), 0);
        Edge.is("where it stowed the shelf 1", moved().lift(), 16);
        GlideShelves x = moved();
        x.pack();
        Edge.is("packing moves it not", x.lift(), 16);
        x.serve(1);
        Edge.is("serving does", x.lift(), x.slotOf(3));
        Edge.of(40, "Tells whether shelves are stowed where they were.");
        Edge.is("at first", Edge.rich().isKeptPlace(), true);
        x.turnRule();
        Edge.is("turned", x.isKeptPlace(), false);
        x.undo();
        Edge.is("undone", x.isKeptPlace(), true);
        x.turnRule();
        x.fetch(0);
        x.stow();
        Edge.is("stowing turns it not", x.isKeptPlace(), false);
    }

    private static void weights() {
        Edge.of(41, "Returns the shelves, as by pack().");
        Edge.Maker[] makers = {Edge::rich, Edge::served, SaysTowerTest::moved, Edge::twelve, Edge::full, GlideShelves::new};
        // Served, 0, 3, 1 and 2 come to 0, 20, 2 and 23; moved, 1, 0, 3 and 2 come to 0, 20, 22 and 4.
        int[] dues = {2, 3, 4, 0, 0, 0};
        for (int i = 0; i < makers.length; i++) {
            Edge.is("maker " + i, makers[i].make().wouldPack() + " " + makers[i].make().pack(), dues[i] + " " + dues[i]);
        }
        Edge.of(42, "Returns how heavy a side of the tower is.");
        Edge.each(Edge.rich(), GlideShelves::sideWeight, 12, 15);
        Edge.each(Edge.atWindow(), GlideShelves::sideWeight, 12, 0);
        Edge.each(Edge.served(), GlideShelves::sideWeight, 3, 15);
        GlideShelves x = Edge.rich();
        Edge.move(x, 3, 1, 9);
        Edge.each(x, GlideShelves::sideWeight, 7, 20);
        x.changeWeight(0, 2);
        Edge.each(x, GlideShelves::sideWeight, 14, 24);
    }

    private static void trips() {
        Edge.of(43, "Returns how many trips of the lift are remembered: the latest ones, each a fetching or a stowing.");
        Edge.is("three there and back", Edge.rich().trips(), 6);
        Edge.is("one more", Edge.atWindow().trips(), 7);
        Edge.is("8 of 10", Edge.served().trips(), 8);
        Edge.of(44, "Returns the ticks of a trip.");
        Edge.each(Edge.rich(), GlideShelves::tripTicks, 3, 6, 2, 2, 0, 0);
        Edge.each(Edge.atWindow(), GlideShelves::tripTicks, 5, 3, 6, 2, 2, 0, 0);
        Edge.of(44, "Returns the ticks.");
        Edge.each(moved(), GlideShelves::tripTicks, 18, 5, 3, 6, 2, 2, 0, 0);
        Edge.each(Edge.served(), GlideShelves::tripTicks, 3, 6, 0, 3, 3, 6, 2, 2);
        Edge.of(45, "Tells whether a trip was a fetching.");
        Edge.each(Edge.rich(), GlideShelves::wasFetch, false, true, false, true, false, true);
        Edge.of(45, "Returns true if so, false if it was a stowing.");
        Edge.each(Edge.atWindow(), GlideShelves::wasFetch, true, false, true, false, true, false, true);
        Edge.each(Edge.served(), GlideShelves::wasFetch, false, true, false, true, false, true, false, true);
    }

    public static void main(String[] args) {
        shelves();
        heightOf();
        sideOfAndSlotOf();
        isAtWindow();
        thingsIn();
        weightOfAndFetchesOf();
        atWindow();
        isFreeAndShelfAt();
        free();
        places();
        lift();
        weights();
        trips();
        Edge.end("SaysTowerTest");
    }
}
