/** Edges of what is told of shelves, slots and the lift: promises 24 to 40 and 42 to 45. */
public final class EdgeTowerTellsTest {
    private EdgeTowerTellsTest() {
    }

    /** What is asked of a shelf is refused of one that there is not. */
    private static void refusesNoShelf(Edge.IntAct call) {
        Edge.refuses(Edge.INDEX, GlideShelves::new, x -> call.on(x, 0));
        Edge.refusesEach(Edge.INDEX, Edge::rich, Edge.outside(0, 3), call);
        Edge.refusesEach(Edge.INDEX, Edge::atWindow, Edge.outside(0, 3), call);
        Edge.refusesEach(Edge.INDEX, Edge::twelve, Edge.outside(0, 11), call);
        Edge.refuses(Edge.INDEX, () -> {
            GlideShelves x = Edge.twelve();
            x.scrap(0);
            return x;
        }, x -> call.on(x, 11));
    }

    private static void promise24() {
        Edge.of(24, "Returns 0 to 12.");
        GlideShelves x = new GlideShelves();
        Edge.is("none", x.shelves(), 0);
        for (int shelves = 1; shelves <= 12; shelves++) {
            x.addShelf(1);
            Edge.is("one more", x.shelves(), shelves);
        }
        x.fetch(11);
        Edge.is("with one at the window", x.shelves(), 12);
        x.scrap(0);
        Edge.is("one less", x.shelves(), 11);
    }

    private static void promise25() {
        Edge.of(25, "- `shelf`: the number of the shelf");
        GlideShelves x = Check.tower(4, 1, 1, 1, 1, 1, 1, 1, 1, 1, 1, 3);
        Edge.is("the first of 12", x.heightOf(0), 4);
        Edge.is("the last of 12", x.heightOf(11), 3);
        x.fetch(0);
        Edge.is("at the window", x.heightOf(0), 4);
        Edge.of(25, "Throws `IndexOutOfBoundsException` if there is no such shelf");
        refusesNoShelf(GlideShelves::heightOf);
    }

    private static void promise26() {
        Edge.of(26, "- `shelf`: the number of the shelf");
        Edge.is("the first of 12", Edge.twelve().sideOf(0), 0);
        Edge.is("the last of 12", Edge.twelve().sideOf(11), 1);
        Edge.of(26, "Returns 0 or 1.");
        GlideShelves x = Check.tower(1);
        Edge.move(x, 0, 0, 19);
        Edge.is("at the last slot in front", x.sideOf(0), 0);
        Edge.move(x, 0, 1, 0);
        Edge.is("at the first slot behind", x.sideOf(0), 1);
        x.fetch(0);
        Edge.is("the one on which it was", x.sideOf(0), 1);
        Edge.of(26, "Throws `IndexOutOfBoundsException` if there is no such shelf");
        refusesNoShelf(GlideShelves::sideOf);
    }

    private static void promise27() {
        Edge.of(27, "- `shelf`: the number of the shelf");
        Edge.is("the first of 12", Edge.twelve().slotOf(0), 0);
        Edge.is("the last of 12", Edge.twelve().slotOf(11), 5);
        Edge.of(27, "Returns 0 to 19.");
        for (int side = 0; side < 2; side++) {
            GlideShelves x = Check.tower(1);
            Edge.move(x, 0, side, 19);
            Edge.is("the highest", x.slotOf(0), 19);
            x.fetch(0);
            Edge.is("the one that it had", x.slotOf(0), 19);
            x.stowAt(side, 0);
            Edge.is("the lowest", x.slotOf(0), 0);
        }
        Edge.of(27, "Throws `IndexOutOfBoundsException` if there is no such shelf");
        refusesNoShelf(GlideShelves::slotOf);
    }

    private static void promise28() {
        Edge.of(28, "- `shelf`: the number of the shelf");
        for (int fetched : new int[] {0, 5, 11}) {
            GlideShelves x = Edge.twelve();
            x.fetch(fetched);
            for (int shelf = 0; shelf < 12; shelf++) {
                Edge.is("of " + shelf, x.isAtWindow(shelf), shelf == fetched);
            }
            x.stow();
            Edge.is("stowed", x.isAtWindow(fetched), false);
        }
        Edge.is("none of a new tower", Edge.twelve().isAtWindow(0), false);
        Edge.of(28, "Throws `IndexOutOfBoundsException` if there is no such shelf");
        refusesNoShelf(GlideShelves::isAtWindow);
    }

    private static void promise29() {
        Edge.of(29, "- `shelf`: the number of the shelf");
        GlideShelves x = Edge.twelve();
        Check.restock(x, 0, 9, 20);
        Check.restock(x, 11, 0, 1);
        Edge.is("the first of 12", x.thingsIn(0, 9) + " " + x.thingsIn(0, 0), "20 0");
        Edge.is("the last of 12", x.thingsIn(11, 0) + " " + x.thingsIn(11, 9), "1 0");
        Edge.of(29, "- `kind`: 0 to 9");
        Edge.is("the ones beside have none", x.thingsIn(1, 0) + " " + x.thingsIn(10, 9), "0 0");
        Edge.of(29, "Throws `IndexOutOfBoundsException` if there is no such shelf or kind");
        refusesNoShelf((y, shelf) -> y.thingsIn(shelf, 0));
        refusesNoShelf((y, shelf) -> y.thingsIn(shelf, 9));
        for (int shelf = 0; shelf < 4; shelf++) {
            int s = shelf;
            Edge.refusesEach(Edge.INDEX, Edge::rich, Edge.outside(0, 9), (y, kind) -> y.thingsIn(s, kind));
        }
        Edge.refuses(Edge.INDEX, Edge::rich, y -> y.thingsIn(-1, 10));
        Edge.refuses(Edge.INDEX, Edge::rich, y -> y.thingsIn(4, -1));
        Edge.refuses(Edge.INDEX, Edge::rich, y -> y.thingsIn(4, -10));
    }

    private static void promise30() {
        Edge.of(30, "- `shelf`: the number of the shelf");
        GlideShelves x = Edge.twelve();
        x.changeWeight(5, 9);
        Check.restock(x, 0, 5, 16);
        Check.restock(x, 11, 5, 1);
        Edge.is("the first of 12", x.weightOf(0), 144);
        Edge.is("the last of 12", x.weightOf(11), 9);
        Edge.of(30, "Returns the weights of its things, together, 0 to 150.");
        Edge.is("nothing", x.weightOf(5), 0);
        Check.restock(x, 0, 0, 6);
        Edge.is("150", x.weightOf(0), 150);
        x.fetch(0);
        Edge.is("at the window", x.weightOf(0), 150);
        x.changeWeight(5, 1);
        Edge.is("all light", x.weightOf(0), 22);
        Edge.of(30, "Throws `IndexOutOfBoundsException` if there is no such shelf");
        refusesNoShelf(GlideShelves::weightOf);
    }

    private static void promise31() {
        Edge.of(31, "- `shelf`: the number of the shelf");
        GlideShelves x = Edge.twelve();
        Edge.use(x, 0, 3);
        x.fetch(11);
        Edge.is("the first of 12", x.fetchesOf(0), 3);
        Edge.is("the last of 12", x.fetchesOf(11), 1);
        Edge.is("never", x.fetchesOf(5), 0);
        Edge.of(31, "Returns how often, by serve() too.");
        GlideShelves y = Check.tower(1, 1);
        Check.restock(y, 0, 0, 4);
        Check.order(y, "0*2");
        Check.order(y, "0*2");
        y.serve(1);
        Edge.is("by serve()", y.fetchesOf(0) + " " + y.fetchesOf(1), "2 0");
        y.serveAll();
        Edge.is("by serveAll()", y.fetchesOf(0) + " " + y.fetchesOf(1), "3 0");
        Edge.of(31, "Throws `IndexOutOfBoundsException` if there is no such shelf");
        refusesNoShelf(GlideShelves::fetchesOf);
    }

    private static void promise32() {
        Edge.of(32, "Throws `IllegalStateException` if there is none");
        Edge.refuses(Edge.STATE, GlideShelves::new, GlideShelves::atWindow);
        Edge.refuses(Edge.STATE, Edge::rich, GlideShelves::atWindow);
        for (int shelf : new int[] {0, 11}) {
            GlideShelves x = Edge.twelve();
            x.fetch(shelf);
            Edge.is("there is one", x.atWindow(), shelf);
        }
        Edge.refuses(Edge.STATE, () -> {
            GlideShelves x = Edge.atWindow();
            x.stow();
            return x;
        }, GlideShelves::atWindow);
        Edge.refuses(Edge.STATE, () -> {
            GlideShelves x = Edge.atWindow();
            x.undo();
            return x;
        }, GlideShelves::atWindow);
        Edge.refuses(Edge.STATE, () -> {
            GlideShelves x = Edge.atWindow();
            x.goBack(0);
            return x;
        }, GlideShelves::atWindow);
    }

    /** What is asked of a slot is refused of one that there is not, on both sides. */
    private static void refusesNoSlot(Edge.Maker maker, Edge.Act minus, Edge.IntAct side, Edge.IntAct slot) {
        Edge.refusesEach(Edge.INDEX, maker, Edge.outside(0, 1), side);
        Edge.refusesEach(Edge.INDEX, maker, Edge.outside(0, 19), slot);
        Edge.refuses(Edge.INDEX, maker, minus);
    }

    private static void promise33() {
        Edge.of(33, "- `side`: 0 (in front) or 1 (behind)");
        GlideShelves x = Check.tower(1);
        Edge.is("in front, not behind", x.isFree(0, 0) + " " + x.isFree(1, 0), "false true");
        Edge.of(33, "- `slot`: 0 to 19");
        Edge.move(x, 0, 1, 19);
        Edge.is("the highest behind", x.isFree(1, 19) + " " + x.isFree(0, 19) + " " + x.isFree(1, 18), "false true true");
        Edge.move(x, 0, 0, 19);
        Edge.is("the highest in front", x.isFree(0, 19) + " " + x.isFree(1, 0), "false true");
        for (int place = 0; place < 40; place++) {
            Edge.is("none of a full tower", Edge.full().isFree(place / 20, place % 20), false);
        }
        Edge.of(33, "Throws `IndexOutOfBoundsException` if there is no such side or slot");
        for (Edge.Maker maker : new Edge.Maker[] {GlideShelves::new, Edge::rich, Edge::full, Edge::atWindow}) {
            refusesNoSlot(maker, y -> y.isFree(1, -20), (y, side) -> y.isFree(side, 3), (y, slot) -> y.isFree(0, slot));
            refusesNoSlot(maker, y -> y.isFree(-1, 20), (y, side) -> y.isFree(side, 19), (y, slot) -> y.isFree(1, slot));
        }
    }

    private static void promise34() {
        Edge.of(34, "- `side`: 0 (in front) or 1 (behind)");
        Edge.is("in front and behind", Edge.full().shelfAt(0, 0) + " " + Edge.full().shelfAt(1, 0), "0 1");
        Edge.of(34, "- `slot`: 0 to 19");
        Edge.is("the highest", Edge.full().shelfAt(0, 19) + " " + Edge.full().shelfAt(1, 19), "8 9");
        Edge.is("the borders", Edge.full().shelfAt(0, 3) + " " + Edge.full().shelfAt(0, 4), "0 2");
        Edge.of(34, "Throws `IndexOutOfBoundsException` if there is no such side or slot");
        for (Edge.Maker maker : new Edge.Maker[] {GlideShelves::new, Edge::rich, Edge::full, Edge::atWindow}) {
            refusesNoSlot(maker, y -> y.shelfAt(1, -20), (y, side) -> y.shelfAt(side, 3), (y, slot) -> y.shelfAt(0, slot));
            refusesNoSlot(maker, y -> y.shelfAt(-1, 20), (y, side) -> y.shelfAt(side, 19), (y, slot) -> y.shelfAt(1, slot));
        }
        Edge.of(34, "Throws `IllegalStateException` if it is free");
        Edge.refuses(Edge.STATE, GlideShelves::new, x -> x.shelfAt(0, 0));
        Edge.refuses(Edge.STATE, GlideShelves::new, x -> x.shelfAt(1, 19));
        Edge.is("the last that is taken", Edge.rich().shelfAt(0, 5) + " " + Edge.rich().shelfAt(1, 3), "3 1");
        Edge.refuses(Edge.STATE, Edge::rich, x -> x.shelfAt(0, 6));
        Edge.refuses(Edge.STATE, Edge::rich, x -> x.shelfAt(1, 4));
        // The shelf 1 is at the window.
        Edge.refuses(Edge.STATE, Edge::atWindow, x -> x.shelfAt(1, 0));
        Edge.refuses(Edge.STATE, Edge::atWindow, x -> x.shelfAt(1, 3));
        // Just before and just behind a shelf in the middle of a side, and none behind the end of the front.
        GlideShelves x = Check.tower(3);
        Edge.move(x, 0, 0, 17);
        Edge.is("at the end", x.shelfAt(0, 17) + " " + x.shelfAt(0, 19), "0 0");
        Edge.refuses(Edge.STATE, () -> {
            GlideShelves y = Check.tower(3);
            Edge.move(y, 0, 0, 17);
            return y;
        }, y -> y.shelfAt(1, 0));
        Edge.refuses(Edge.STATE, () -> {
            GlideShelves y = Check.tower(3);
            Edge.move(y, 0, 1, 17);
            return y;
        }, y -> y.shelfAt(1, 16));
    }

    private static void free(String what, GlideShelves x, int due) {
        Edge.is(what, x.freeBySlots() + " " + x.freeByHeights(), due + " " + due);
    }

    private static void promise35And36() {
        Edge.of(35, "Tells how many slots are free, slot by slot.");
        free("all", new GlideShelves(), 40);
        free("none", Edge.full(), 0);
        Edge.of(36, "Returns the slots, as many as by freeBySlots().");
        free("three", Edge.threeFree(), 3);
        free("28 of 12 shelves", Edge.twelve(), 28);
        GlideShelves x = Edge.full();
        x.fetch(0);
        free("the one at the window takes none", x, 4);
        x.stowAt(0, 0);
        free("stowed", x, 0);
        x.scrap(5);
        free("scrapped", x, 4);
        x.undo();
        free("undone", x, 0);
        GlideShelves y = Check.tower(3);
        y.fetch(0);
        free("the only one is at the window", y, 40);
    }

    private static void promise37() {
        Edge.of(37, "- `height`: 1 to 4");
        for (int height = 1; height <= 4; height++) {
            Edge.is("of an empty tower", new GlideShelves().firstPlace(height), 0);
        }
        Edge.of(37, "Returns 20 times the side, and the slot, together.");
        GlideShelves last = Check.tower(4, 4, 4, 4, 4, 4, 4, 4, 4, 3);
        Edge.is("the last slot of all", last.firstPlace(1), 39);
        GlideShelves front = Check.tower(4, 4, 4, 4, 4, 4, 4, 4, 3, 4);
        Edge.is("the last slot in front", front.firstPlace(1), 19);
        GlideShelves high = Check.tower(4);
        Edge.is("behind", high.firstPlace(4), 20);
        Edge.of(37, "Throws `IllegalArgumentException` if height is out of range");
        int[] wrongs = Edge.outside(1, 4);
        Edge.refusesEach(Edge.ARGUMENT, GlideShelves::new, wrongs, GlideShelves::firstPlace);
        Edge.refusesEach(Edge.ARGUMENT, Edge::rich, wrongs, GlideShelves::firstPlace);
        Edge.refusesEach(Edge.ARGUMENT, Edge::atWindow, wrongs, GlideShelves::firstPlace);
        // Named before the other one.
        Edge.refusesEach(Edge.ARGUMENT, Edge::full, wrongs, GlideShelves::firstPlace);
        Edge.of(37, "Throws `IllegalStateException` if there is none");
        Edge.refusesEach(Edge.STATE, Edge::full, new int[] {1, 2, 3, 4}, GlideShelves::firstPlace);
        for (int height = 1; height <= 3; height++) {
            Edge.is("in a row of 3", Edge.threeFree().firstPlace(height), 37);
        }
        Edge.refuses(Edge.STATE, Edge::threeFree, x -> x.firstPlace(4));
        Edge.refuses(Edge.STATE, () -> Check.tower(4, 4, 4, 4, 4, 4, 4, 4, 4, 3), x -> x.firstPlace(2));
        GlideShelves window = Edge.full();
        window.fetch(2);
        Edge.is("where the one at the window was", window.firstPlace(4), 4);
        Edge.is("also of 12 shelves", Edge.twelve().firstPlace(1), 6);
    }

    private static void promise38() {
        Edge.of(38, "- `side`: 0 or 1");
        Edge.is("in front", Edge.rich().longestGap(0), 14);
        Edge.is("behind", Edge.rich().longestGap(1), 16);
        Edge.of(38, "Returns the longest row of free slots on a side.");
        Edge.is("all", new GlideShelves().longestGap(0) + " " + new GlideShelves().longestGap(1), "20 20");
        Edge.is("none", Edge.full().longestGap(0) + " " + Edge.full().longestGap(1), "0 0");
        int[] slots = {0, 1, 8, 9, 10, 11, 18, 19};
        int[] dues = {19, 18, 11, 10, 10, 11, 18, 19};
        for (int i = 0; i < slots.length; i++) {
            GlideShelves x = Check.tower(1);
            Edge.move(x, 0, 0, slots[i]);
            Edge.is("parted at " + slots[i], x.longestGap(0) + " " + x.longestGap(1), dues[i] + " 20");
            Edge.move(x, 0, 1, slots[i]);
            Edge.is("parted behind", x.longestGap(0) + " " + x.longestGap(1), "20 " + dues[i]);
            x.fetch(0);
            Edge.is("the one at the window parts none", x.longestGap(0) + " " + x.longestGap(1), "20 20");
        }
        Edge.of(38, "Throws `IndexOutOfBoundsException` if there is no such side");
        Edge.refusesEach(Edge.INDEX, GlideShelves::new, Edge.outside(0, 1), GlideShelves::longestGap);
        Edge.refusesEach(Edge.INDEX, Edge::atWindow, Edge.outside(0, 1), GlideShelves::longestGap);
    }

    private static void promise39And40() {
        Edge.of(39, "Returns 0 to 19.");
        GlideShelves x = Check.tower(1);
        Edge.is("at first", x.lift(), 0);
        Edge.move(x, 0, 1, 19);
        Edge.is("the highest", x.lift(), 19);
        x.fetch(0);
        Edge.is("at the window", x.lift(), 0);
        x.stowAt(0, 19);
        Edge.is("the highest in front", x.lift(), 19);
        Edge.of(40, "Returns true if so.");
        Edge.is("at first", x.isKeptPlace(), true);
        x.turnRule();
        Edge.is("turned", x.isKeptPlace(), false);
        x.turnRule();
        Edge.is("turned twice", x.isKeptPlace(), true);
    }

    private static void promise42() {
        Edge.of(42, "- `side`: 0 or 1");
        Edge.is("in front and behind", Edge.rich().sideWeight(0) + " " + Edge.rich().sideWeight(1), "12 15");
        Edge.of(42, "Returns the weights of all shelves on it, together; one at the window is not on it.");
        Edge.is("none there", new GlideShelves().sideWeight(0) + " " + new GlideShelves().sideWeight(1), "0 0");
        Edge.is("empty ones", Edge.full().sideWeight(0) + " " + Edge.full().sideWeight(1), "0 0");
        Edge.is("one at the window", Edge.atWindow().sideWeight(0) + " " + Edge.atWindow().sideWeight(1), "12 0");
        GlideShelves x = Edge.twelve();
        for (int shelf = 0; shelf < 12; shelf++) {
            x.fetch(shelf);
            x.fill(9, 20);
            x.fill(8, 5);
            x.stow();
        }
        x.changeWeight(9, 6);
        x.changeWeight(8, 6);
        Edge.is("150 each", x.sideWeight(0) + " " + x.sideWeight(1), "900 900");
        x.fetch(0);
        Edge.is("without one", x.sideWeight(0) + " " + x.sideWeight(1), "750 900");
        x.stowAt(1, 19);
        Edge.is("on the other side", x.sideWeight(0) + " " + x.sideWeight(1), "750 1050");
        Edge.of(42, "Throws `IndexOutOfBoundsException` if there is no such side");
        Edge.refusesEach(Edge.INDEX, GlideShelves::new, Edge.outside(0, 1), GlideShelves::sideWeight);
        Edge.refusesEach(Edge.INDEX, Edge::atWindow, Edge.outside(0, 1), GlideShelves::sideWeight);
    }

    /** So many trips: a fetching of 0 ticks, then stowings of 1, 2, 3 and so on, each with a fetching of as many behind. */
    private static GlideShelves gone(int trips) {
        GlideShelves x = Check.tower(1);
        for (int trip = 0; trip < trips; trip++) {
            if (trip % 2 == 0) {
                x.fetch(0);
            } else {
                x.stowAt(0, trip / 2 + 1);
            }
        }
        return x;
    }

    private static void promise43() {
        Edge.of(43, "Returns 0 to 8.");
        for (int trips = 0; trips <= 12; trips++) {
            Edge.is("of " + trips, gone(trips).trips(), Math.min(trips, 8));
        }
        GlideShelves x = gone(9);
        x.undo();
        x.undo();
        Edge.is("undone", x.trips(), 7);
    }

    private static void promise44And45() {
        Edge.of(44, "- `ago`: 0 for the latest one");
        for (int trips = 1; trips <= 12; trips++) {
            GlideShelves x = gone(trips);
            for (int ago = 0; ago < Math.min(trips, 8); ago++) {
                int trip = trips - 1 - ago;
                // The lift waits where it stowed the shelf, so that a fetching takes the way alone.
                int due = trip % 2 == 0 ? trip / 2 : trip / 2 + 1;
                Edge.is(ago + " of " + trips, x.tripTicks(ago), due);
                Edge.is(ago + " of " + trips + ", which", x.wasFetch(ago), trip % 2 == 0);
            }
        }
        Edge.of(45, "- `ago`: 0 for the latest one");
        Edge.is("a fetching", gone(1).wasFetch(0), true);
        Edge.is("a stowing", gone(2).wasFetch(0) + " " + gone(2).wasFetch(1), "false true");
        Edge.is("the last one of 8", gone(9).wasFetch(7) + " " + gone(8).wasFetch(7), "false true");
        for (int trips : new int[] {0, 1, 2, 7, 8, 9, 12}) {
            int[] wrongs = Edge.outside(0, Math.min(trips, 8) - 1);
            Edge.of(44, "Throws `IndexOutOfBoundsException` if there are not so many, or ago is below 0");
            Edge.refusesEach(Edge.INDEX, () -> gone(trips), wrongs, GlideShelves::tripTicks);
            Edge.of(45, "Throws `IndexOutOfBoundsException` if there are not so many, or ago is below 0");
            Edge.refusesEach(Edge.INDEX, () -> gone(trips), wrongs, GlideShelves::wasFetch);
        }
    }

    public static void main(String[] args) {
        promise24();
        promise25();
        promise26();
        promise27();
        promise28();
        promise29();
        promise30();
        promise31();
        promise32();
        promise33();
        promise34();
        promise35And36();
        promise37();
        promise38();
        promise39And40();
        promise42();
        promise43();
        promise44And45();
        Edge.end("EdgeTowerTellsTest");
    }
}
