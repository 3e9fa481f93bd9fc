/** Shelves, their places and the free slots: promises 1 to 3, 6, 7, 24 to 28, 32 to 38 and 41. */
public final class TowerTest {
    private static final Class<?> INDEX = IndexOutOfBoundsException.class;
    private static final Class<?> ARGUMENT = IllegalArgumentException.class;
    private static final Class<?> STATE = IllegalStateException.class;

    private TowerTest() {
    }

    private static int place(GlideShelves x, int shelf) {
        return 20 * x.sideOf(shelf) + x.slotOf(shelf);
    }

    private static void promise1ANewObject() {
        GlideShelves x = new GlideShelves();
        Check.is("1: shelves", x.shelves(), 0);
        Check.is("1: orders", x.orders(), 0);
        Check.is("1: free slots", x.freeBySlots(), 40);
        Check.is("1: the lift", x.lift(), 0);
        Check.is("1: the rule", x.isKeptPlace(), true);
        Check.is("1: trips", x.trips(), 0);
        Check.is("1: saved states", x.savedStates(), 0);
        Check.is("1: the buffer", x.clearBuffer(), 0);
        for (int kind = 0; kind < 10; kind++) {
            Check.is("1: the weight", x.weightOfKind(kind), 1);
            Check.is("1: the least", x.leastOf(kind), 0);
            Check.is("1: the stock", x.stockByShelves(kind) + x.stockByAccount(kind), 0);
        }
        Check.failsToRun("1: snapshot 0", x, STATE, () -> x.goBack(0));
        Check.failsToRun("1: snapshot 1", x, STATE, () -> x.goBack(1));
        Check.is("1: accounts", x.ticks() + x.fetches() + x.served() + x.usedWays(), 0);
    }

    private static void promise2AddShelf() {
        GlideShelves x = new GlideShelves();
        Check.is("2: the first", x.addShelf(2), 0);
        Check.is("2: the second", x.addShelf(4), 1);
        Check.is("2: the third", x.addShelf(1), 2);
        Check.is("2: the fourth", x.addShelf(3), 3);
        Check.is("2: places", place(x, 0) + "," + place(x, 1) + "," + place(x, 2) + "," + place(x, 3), "0,20,2,3");
        Check.is("2: undoable", x.savedStates(), 4);
        Check.fails("2: height 0", x, ARGUMENT, () -> x.addShelf(0));
        Check.fails("2: height 5", x, ARGUMENT, () -> x.addShelf(5));
        Check.fails("2: height far below", x, ARGUMENT, () -> x.addShelf(Integer.MIN_VALUE));
        Check.fails("2: height far above", x, ARGUMENT, () -> x.addShelf(Integer.MAX_VALUE));
        x.fetch(0);
        Check.fails("2: a shelf at the window", x, STATE, () -> x.addShelf(1));
        Check.fails("2: both, the first one named", x, ARGUMENT, () -> x.addShelf(0));
        GlideShelves ten = Check.tower(4, 4, 4, 4, 4, 4, 4, 4, 4, 4);
        Check.fails("2: no place fits", ten, STATE, () -> ten.addShelf(1));
        GlideShelves twelve = Check.tower(1, 1, 1, 1, 1, 1, 1, 1, 1, 1, 1, 1);
        Check.is("2: twelve", twelve.shelves(), 12);
        Check.fails("2: 12 shelves", twelve, STATE, () -> twelve.addShelf(1));
        x.stow();
        x.undo();
        x.undo();
        x.undo();
        Check.is("2: undone", x.shelves(), 3);
        Check.is("2: empty as added anew", x.addShelf(3) + x.weightOf(3) + x.fetchesOf(3), 3);
    }

    private static void promise3Scrap() {
        GlideShelves x = Check.tower(1, 2, 3, 4);
        Check.restock(x, 2, 7, 5);
        Check.is("3: its height", x.scrap(1), 2);
        Check.is("3: shelves", x.shelves(), 3);
        Check.is("3: later ones are 1 less", x.heightOf(1) + "," + x.heightOf(2), "3,4");
        Check.is("3: with their things", x.thingsIn(1, 7), 5);
        Check.is("3: with their fetches", x.fetchesOf(1), 1);
        Check.is("3: with their places", place(x, 1) + "," + place(x, 2), "1,22");
        Check.is("3: its slots are free", x.isFree(1, 0) && x.isFree(1, 1), true);
        Check.is("3: fetches are kept", x.fetches(), 1);
        Check.fails("3: below", x, INDEX, () -> x.scrap(-1));
        Check.fails("3: above", x, INDEX, () -> x.scrap(3));
        Check.fails("3: not empty", x, STATE, () -> x.scrap(1));
        x.fetch(2);
        Check.fails("3: at the window", x, STATE, () -> x.scrap(2));
        Check.is("3: one below the one at the window", x.scrap(0), 1);
        Check.is("3: which is 1 less", x.atWindow(), 1);
        x.undo();
        Check.is("3: undone", x.shelves() + "," + x.atWindow(), "3,2");
        Check.is("3: the last", Check.tower(4).scrap(0), 4);
        GlideShelves y = Check.tower(1, 1);
        y.fetch(0);
        y.scrap(1);
        Check.is("3: one above the one at the window", y.atWindow(), 0);
        GlideShelves z = Check.tower(2);
        Check.restock(z, 0, 9, 3);
        z.fetch(0);
        z.take(9, 3);
        z.stow();
        Check.is("3: emptied", z.scrap(0), 2);
    }

    private static void promise3ScrapAndAddAnew() {
        GlideShelves x = Check.tower(1, 2);
        Check.restock(x, 1, 0, 5);
        Check.restock(x, 1, 9, 5);
        x.scrap(0);
        Check.is("2: the one added then", x.addShelf(1), 1);
        Check.is("2: is empty", x.thingsIn(1, 0) + x.thingsIn(1, 9) + x.weightOf(1), 0);
        Check.is("2: was never fetched", x.fetchesOf(1), 0);
        Check.restock(x, 1, 0, 1);
        Check.fails("3: one thing of the first kind", x, STATE, () -> x.scrap(1));
        GlideShelves twelve = Check.tower(1, 1, 1, 1, 1, 1, 1, 1, 1, 1, 1, 1);
        Check.restock(twelve, 11, 9, 1);
        Check.is("3: the first of 12", twelve.scrap(0), 1);
        Check.fails("3: one thing of the last kind", twelve, STATE, () -> twelve.scrap(10));
        Check.is("3: the last of 11 that is empty", twelve.scrap(9), 1);
        Check.is("3: then the last has the thing", twelve.thingsIn(9, 9), 1);
        GlideShelves full = Check.tower(1, 1, 1, 1, 1, 1, 1, 1, 1, 1, 1, 4);
        Check.is("3: the last of 12", full.scrap(11), 4);
    }

    private static void promise7TwelveAndFewer() {
        GlideShelves x = Check.tower(1, 1, 1, 1, 1, 1, 1, 1, 1, 1, 1, 1);
        useOften(x, 11, 1);
        Check.is("7: all of 12 move", x.pack(), 12);
        x.scrap(11);
        x.scrap(10);
        Check.is("41: the others move back", x.wouldPack(), 10);
        Check.is("42: nothing in there", x.sideWeight(0) + x.sideWeight(1), 0);
    }

    private static void promise6StowAt() {
        GlideShelves x = Check.tower(2, 4, 1, 3);
        Check.fails("6: no shelf", x, STATE, () -> x.stowAt(0, 10));
        Check.fails("6: no side, the first one named", x, INDEX, () -> x.stowAt(2, 0));
        x.fetch(3);
        Check.fails("6: side -1", x, INDEX, () -> x.stowAt(-1, 0));
        Check.fails("6: slot -1", x, INDEX, () -> x.stowAt(0, -1));
        Check.fails("6: slot 20", x, INDEX, () -> x.stowAt(0, 20));
        Check.fails("6: slot far above", x, INDEX, () -> x.stowAt(1, Integer.MAX_VALUE));
        Check.fails("6: taken", x, STATE, () -> x.stowAt(0, 2));
        Check.fails("6: over the end", x, STATE, () -> x.stowAt(0, 18));
        Check.fails("6: the first slot is taken", x, STATE, () -> x.stowAt(1, 3));
        Check.is("6: ticks", x.stowAt(1, 17), 19);
        Check.is("6: the lift", x.lift(), 17);
        Check.is("6: the place", place(x, 3), 37);
        Check.is("6: the latest trip", x.tripTicks(0) + "," + x.wasFetch(0), "19,false");
        Check.is("6: all ticks", x.ticks(), 6 + 19);
        x.fetch(3);
        x.stow();
        Check.is("6: from then on it was there", place(x, 3), 37);
        x.fetch(3);
        Check.is("6: where it was, partly", x.stowAt(1, 16), 18);
        x.undo();
        Check.is("6: undone", x.atWindow(), 3);
    }

    private static GlideShelves used() {
        GlideShelves x = Check.tower(2, 4, 1, 3);
        for (int i = 0; i < 3; i++) {
            x.fetch(3);
            x.stow();
        }
        x.fetch(1);
        x.stow();
        return x;
    }

    private static void promise7And41Pack() {
        GlideShelves x = used();
        int ticks = x.ticks();
        x.fetch(2);
        x.stowAt(0, 19);
        // By use: 3 (3 times), 1 and 2 (once each), 0 (never).
        Check.is("41: would move", x.wouldPack(), 3);
        Check.is("41: changes nothing", place(x, 3), 3);
        Check.is("7: moves", x.pack(), 3);
        Check.is("7: places", place(x, 3) + "," + place(x, 1) + "," + place(x, 2) + "," + place(x, 0), "0,20,3,4");
        Check.is("7: the lift stays", x.lift(), 19);
        Check.is("7: no ticks", x.ticks(), ticks + 4 + 19);
        Check.is("7: no trip", x.tripTicks(0), 19);
        Check.is("41: packed", x.wouldPack(), 0);
        Check.is("7: none moves", x.pack(), 0);
        Check.is("7: undoable, also if it changes nothing", x.savedStates(), 6);
        x.undo();
        Check.is("7: the first one stands", place(x, 3), 0);
        x.undo();
        Check.is("7: undone", place(x, 3) + "," + place(x, 2), "3,19");
        x.fetch(0);
        Check.fails("7: at the window", x, STATE, x::pack);
        Check.fails("41: at the window", x, STATE, x::wouldPack);
        GlideShelves y = new GlideShelves();
        Check.is("7: an empty tower", y.pack() + y.wouldPack(), 0);
        Check.is("7: undoable", y.savedStates(), 1);
    }

    private static void useOften(GlideShelves x, int shelf, int times) {
        for (int i = 0; i < times; i++) {
            x.fetch(shelf);
            x.stow();
        }
    }

    private static void promise7SomeWouldNotFit() {
        GlideShelves x = Check.tower(4, 4, 3, 3, 3, 3, 3, 3, 3, 3, 4, 4);
        Check.is("7: the tower is full", x.freeBySlots(), 0);
        Check.is("41: full, as it is", x.wouldPack(), 0);
        // By use 3 4 3 4 3 4 3 4: both sides are taken up to 12 after seven; of the others (4, 3, 3, 3, 3)
        // the 4 comes to 12 in front, then 12 and 15 behind, 16 in front, and no place has 3 slots then.
        int[] byUse = {2, 0, 3, 1, 4, 10, 5, 11};
        for (int i = 0; i < byUse.length; i++) {
            useOften(x, byUse[i], byUse.length - i);
        }
        Check.fails("7: some would not fit", x, STATE, x::pack);
        Check.fails("41: some would not fit", x, STATE, x::wouldPack);
        GlideShelves y = Check.tower(4, 4, 3, 3, 3, 3, 3, 3, 3, 3, 4, 4);
        useOften(y, 2, 1);
        Check.is("7: a full one that fits", y.pack(), 3);
        Check.is("7: places", place(y, 2) + "," + place(y, 0) + "," + place(y, 1) + "," + place(y, 3), "0,20,3,24");
    }

    private static void promise24To28AndAtWindow() {
        GlideShelves x = Check.tower(3, 1, 4);
        Check.is("24: shelves", x.shelves(), 3);
        Check.is("25: heights", x.heightOf(0) + "," + x.heightOf(1) + "," + x.heightOf(2), "3,1,4");
        Check.is("26: sides", x.sideOf(0) + "," + x.sideOf(1) + "," + x.sideOf(2), "0,1,1");
        Check.is("27: slots", x.slotOf(0) + "," + x.slotOf(1) + "," + x.slotOf(2), "0,0,1");
        Check.fails("32: none", x, STATE, x::atWindow);
        x.fetch(2);
        Check.is("24: the one at the window, too", x.shelves(), 3);
        Check.is("26: at the window", x.sideOf(2), 1);
        Check.is("27: at the window", x.slotOf(2), 1);
        Check.is("28: at the window", x.isAtWindow(2), true);
        Check.is("28: not at the window", x.isAtWindow(0) || x.isAtWindow(1), false);
        Check.is("32: at the window", x.atWindow(), 2);
        x.stow();
        Check.is("28: stowed", x.isAtWindow(2), false);
        Check.fails("32: stowed", x, STATE, x::atWindow);
        for (int shelf : new int[] {-1, 3, Integer.MIN_VALUE, Integer.MAX_VALUE}) {
            Check.fails("25: " + shelf, x, INDEX, () -> x.heightOf(shelf));
            Check.fails("26: " + shelf, x, INDEX, () -> x.sideOf(shelf));
            Check.fails("27: " + shelf, x, INDEX, () -> x.slotOf(shelf));
            Check.fails("28: " + shelf, x, INDEX, () -> x.isAtWindow(shelf));
        }
    }

    private static void promise33To36Slots() {
        GlideShelves x = Check.tower(2, 4, 1, 3);
        for (int place = 0; place < 40; place++) {
            int slot = place % 20;
            boolean isFree = place < 20 ? slot > 5 : slot > 3;
            Check.is("33: place " + place, x.isFree(place / 20, slot), isFree);
        }
        Check.is("34: in front", x.shelfAt(0, 1) + "," + x.shelfAt(0, 2) + "," + x.shelfAt(0, 5), "0,2,3");
        Check.is("34: behind", x.shelfAt(1, 0) + "," + x.shelfAt(1, 3), "1,1");
        Check.fails("34: free", x, STATE, () -> x.shelfAt(0, 6));
        Check.is("35: by slots", x.freeBySlots(), 30);
        Check.is("36: by heights", x.freeByHeights(), 30);
        x.fetch(1);
        Check.is("33: at the window", x.isFree(1, 0), true);
        Check.fails("34: at the window", x, STATE, () -> x.shelfAt(1, 0));
        Check.is("35: at the window", x.freeBySlots(), 34);
        Check.is("36: at the window", x.freeByHeights(), 34);
        int[][] wrongs = {{-1, 0}, {2, 0}, {0, -1}, {0, 20}, {1, Integer.MAX_VALUE}, {Integer.MIN_VALUE, 0}};
        for (int[] wrong : wrongs) {
            Check.fails("33: no such slot", x, INDEX, () -> x.isFree(wrong[0], wrong[1]));
            Check.fails("34: no such slot", x, INDEX, () -> x.shelfAt(wrong[0], wrong[1]));
        }
    }

    private static void promise37FirstPlace() {
        GlideShelves x = Check.tower(2, 4, 1, 3);
        Check.is("37: behind is lower", x.firstPlace(1) + "," + x.firstPlace(4), "24,24");
        x.fetch(0);
        Check.is("37: a gap of two", x.firstPlace(1) + "," + x.firstPlace(2) + "," + x.firstPlace(3), "0,0,24");
        x.stowAt(1, 4);
        Check.is("37: in front of two", x.firstPlace(3), 6);
        Check.fails("37: 0", x, ARGUMENT, () -> x.firstPlace(0));
        Check.fails("37: 5", x, ARGUMENT, () -> x.firstPlace(5));
        GlideShelves full = Check.tower(4, 4, 4, 4, 4, 4, 4, 4, 4, 2);
        Check.is("37: at the top", full.firstPlace(2) + "," + full.firstPlace(1), "38,38");
        Check.fails("37: none for 3", full, STATE, () -> full.firstPlace(3));
        Check.fails("37: 5, the first one named", full, ARGUMENT, () -> full.firstPlace(5));
    }

    private static void promise38LongestGap() {
        GlideShelves x = Check.tower(2, 4, 1, 3);
        Check.is("38: at the upper end", x.longestGap(0) + "," + x.longestGap(1), "14,16");
        x.fetch(3);
        x.stowAt(0, 14);
        Check.is("38: in the middle", x.longestGap(0), 11);
        x.fetch(1);
        Check.is("38: a whole side", x.longestGap(1), 20);
        x.stowAt(1, 16);
        Check.is("38: at the lower end", x.longestGap(1), 16);
        Check.is("38: none", Check.tower(4, 4, 4, 4, 4, 4, 4, 4, 4, 4).longestGap(1), 0);
        for (int side : new int[] {-1, 2, Integer.MAX_VALUE}) {
            Check.fails("38: " + side, x, INDEX, () -> x.longestGap(side));
        }
    }

    public static void main(String[] args) {
        promise1ANewObject();
        promise2AddShelf();
        promise3Scrap();
        promise3ScrapAndAddAnew();
        promise7TwelveAndFewer();
        promise6StowAt();
        promise7And41Pack();
        promise7SomeWouldNotFit();
        promise24To28AndAtWindow();
        promise33To36Slots();
        promise37FirstPlace();
        promise38LongestGap();
        Check.end("TowerTest");
    }
}
