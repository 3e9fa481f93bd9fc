/** Edges of snapshots and undo: promises 20 to 23, and the terms of both. */
public final class EdgeHistoryTest {
    private EdgeHistoryTest() {
    }

    private static void promise20() {
        Edge.of(20, "- `slot`: 0 or 1");
        for (int slot = 0; slot < 2; slot++) {
            GlideShelves x = Check.tower(1);
            x.keep(slot);
            x.addShelf(2);
            x.goBack(slot);
            Edge.is("slot " + slot, x.shelves(), 1);
        }
        Edge.of(20, "Throws `IllegalArgumentException` if slot is out of range");
        int[] slots = Edge.outside(0, 1);
        Edge.refusesEach(Edge.ARGUMENT, GlideShelves::new, slots, GlideShelves::keep);
        Edge.refusesEach(Edge.ARGUMENT, Edge::rich, slots, GlideShelves::keep);
        Edge.refusesEach(Edge.ARGUMENT, Edge::atWindow, slots, GlideShelves::keep);
        Edge.of(20, "Takes a snapshot, in place of the one in the slot.");
        GlideShelves x = new GlideShelves();
        for (int shelves = 1; shelves <= 9; shelves++) {
            x.addShelf(1);
            x.keep(shelves % 2);
        }
        Edge.is("not undoable", x.savedStates(), 6);
        x.goBack(0);
        Edge.is("the latest one of slot 0", x.shelves(), 8);
        x.goBack(1);
        Edge.is("the latest one of slot 1", x.shelves(), 9);
        x.goBack(0);
        x.keep(1);
        x.goBack(1);
        Edge.is("a snapshot of a snapshot", x.shelves(), 8);
    }

    private static GlideShelves kept(int slot) {
        GlideShelves x = Check.tower(1, 2);
        x.keep(slot);
        x.addShelf(3);
        return x;
    }

    private static void promise21() {
        Edge.of(21, "- `slot`: 0 or 1");
        for (int slot = 0; slot < 2; slot++) {
            GlideShelves x = kept(slot);
            x.goBack(slot);
            Edge.is("slot " + slot, x.shelves(), 2);
        }
        Edge.of(21, "Throws `IllegalArgumentException` if slot is out of range");
        int[] slots = Edge.outside(0, 1);
        Edge.refusesEach(Edge.ARGUMENT, Edge::rich, slots, GlideShelves::goBack);
        // Named before the other one: there is no snapshot at all.
        Edge.refusesEach(Edge.ARGUMENT, GlideShelves::new, slots, GlideShelves::goBack);
        Edge.of(21, "Throws `IllegalStateException` if there is no snapshot in it");
        Edge.refusesEach(Edge.STATE, GlideShelves::new, new int[] {0, 1}, GlideShelves::goBack);
        Edge.refuses(Edge.STATE, () -> kept(0), x -> x.goBack(1));
        Edge.refuses(Edge.STATE, () -> kept(1), x -> x.goBack(0));
        Edge.refuses(Edge.STATE, () -> Check.tower(1, 2, 3), x -> x.goBack(0));
        Edge.of(21, "Goes back to a snapshot, which stays. Undoable.");
        GlideShelves x = kept(0);
        for (int i = 0; i < 3; i++) {
            x.goBack(0);
            Edge.is("it stays", x.shelves(), 2);
            x.addShelf(4);
            x.fetch(0);
            x.fill(0, 5);
        }
        Edge.is("what is done then does not change it", x.thingsIn(0, 0) + " " + x.shelves(), "5 3");
        x.goBack(0);
        Edge.is("it is as it was", x.thingsIn(0, 0) + " " + x.shelves() + " " + x.fetches(), "0 2 0");
        x.undo();
        Edge.is("undone", x.thingsIn(0, 0) + " " + x.shelves() + " " + x.atWindow(), "5 3 0");
        x.undo();
        Edge.is("and the one before", x.thingsIn(0, 0) + " " + x.atWindow(), "0 0");
    }

    private static void snapshotsLeaveThese() {
        Edge.of(0, "There are two slots for snapshots; a snapshot is all but the buffer, these slots and the saved states.");
        GlideShelves x = Check.tower(1);
        Check.type(x, "0*1");
        x.keep(0);
        x.append(',');
        x.addShelf(1);
        x.keep(1);
        x.goBack(0);
        Edge.is("the buffer stays", x.firstError() + " " + x.clearBuffer(), "4 4");
        x.goBack(1);
        Edge.is("the other slot stays", x.shelves(), 2);
        Edge.is("the saved states stay", x.savedStates(), 4);
        Edge.is("the buffer stays empty", x.clearBuffer(), 0);
        Edge.is("all the rest", roundTrip(), roundTripDue());
    }

    /** All that a snapshot holds, after going back to it from a new tower's state. */
    private static String roundTrip() {
        GlideShelves x = new GlideShelves();
        x.keep(1);
        x.addShelf(2);
        x.addShelf(1);
        Edge.move(x, 1, 1, 19);
        Check.restock(x, 0, 6, 9);
        x.changeWeight(6, 8);
        x.changeLeast(7, 98);
        x.turnRule();
        Check.order(x, "6*4");
        Check.order(x, "5*5");
        x.serve(0);
        x.fetch(1);
        x.keep(0);
        x.goBack(1);
        Edge.is("the new one", x.shelves() + " " + x.orders() + " " + x.ticks() + " " + x.trips() + " " + x.lift() + " "
                + x.fetches() + " " + x.served() + " " + x.isKeptPlace() + " " + x.weightOfKind(6) + " " + x.leastOf(7)
                + " " + x.stockByAccount(6), "0 0 0 0 0 0 0 true 1 0 0");
        x.goBack(0);
        return x.shelves() + " " + x.orders() + " " + x.wanted(0, 5) + " " + x.ticks() + " " + x.trips() + " "
                + x.tripTicks(0) + " " + x.wasFetch(0) + " " + x.fetches() + " " + x.served() + " " + x.isKeptPlace() + " "
                + x.weightOfKind(6) + " " + x.leastOf(7) + " " + x.stockByAccount(6) + " " + x.stockByShelves(6) + " "
                + x.atWindow() + " " + Edge.place(x, 1) + " " + x.fetchesOf(0) + " " + x.heightOf(0);
    }

    // Ticks: 2 and 21 (moving 1), 19 and 0 (restocking 0), 0 and 0 (serving), 40 (fetching 1).
    private static String roundTripDue() {
        return "2 1 5 82 7 40 true 4 1 false 8 98 5 5 1 39 2 2";
    }

    private static void promise22() {
        Edge.of(22, "Throws `IllegalStateException` if there is none");
        Edge.refuses(Edge.STATE, GlideShelves::new, GlideShelves::undo);
        Edge.refuses(Edge.STATE, () -> undone(1, 1), GlideShelves::undo);
        Edge.refuses(Edge.STATE, () -> undone(6, 6), GlideShelves::undo);
        Edge.refuses(Edge.STATE, () -> undone(7, 6), GlideShelves::undo);
        Edge.refuses(Edge.STATE, () -> undone(20, 6), GlideShelves::undo);
        Edge.refuses(Edge.STATE, () -> {
            GlideShelves x = Edge.typed("0*1");
            x.keep(0);
            return x;
        }, GlideShelves::undo);
        Edge.of(22, "Restores the latest saved state, and drops it.");
        GlideShelves x = undone(7, 5);
        Edge.is("the oldest one that is saved", x.savedStates() + " " + x.leastOf(0), "1 2");
        x.undo();
        Edge.is("the first call stands", x.savedStates() + " " + x.leastOf(0), "0 1");
        x.changeLeast(0, 50);
        x.changeLeast(0, 51);
        x.undo();
        Edge.is("another way from there", x.leastOf(0) + " " + x.savedStates(), "50 1");
        GlideShelves y = undone(2, 1);
        y.keep(0);
        y.undo();
        y.goBack(0);
        Edge.is("undo leaves the snapshots", y.leastOf(0) + " " + y.savedStates(), "1 1");
    }

    /** So many undoable calls, the least of the kind 0 is 1, 2, 3 and so on; then so many undone. */
    private static GlideShelves undone(int calls, int times) {
        GlideShelves x = new GlideShelves();
        for (int i = 1; i <= calls; i++) {
            x.changeLeast(0, i);
        }
        for (int i = 0; i < times; i++) {
            x.undo();
        }
        return x;
    }

    private static void atMost6States() {
        Edge.of(0, "At most 6 states are saved; the oldest one is dropped first.");
        for (int calls = 0; calls <= 20; calls++) {
            Edge.is(calls + " calls", undone(calls, 0).savedStates(), Math.min(calls, 6));
            for (int times = 0; times <= Math.min(calls, 6); times++) {
                GlideShelves x = undone(calls, times);
                Edge.is(calls + " calls, " + times + " undone", x.leastOf(0) + " " + x.savedStates(),
                        (calls - times) + " " + (Math.min(calls, 6) - times));
            }
        }
        Edge.of(23, "Returns 0 to 6.");
        Edge.is("none", new GlideShelves().savedStates(), 0);
        Edge.is("5", undone(5, 0).savedStates(), 5);
        Edge.is("6", undone(6, 0).savedStates(), 6);
        Edge.is("still 6", undone(7, 0).savedStates(), 6);
        Edge.is("none again", undone(7, 6).savedStates(), 0);
    }

    private static void saves(String what, GlideShelves x, Edge.Act call) {
        int before = x.savedStates();
        // The hash tells all but what is in the snapshots and in the saved states.
        long digest = x.digest();
        call.on(x);
        Edge.is(what + " saves", x.savedStates(), before + 1);
        x.clearBuffer();
        x.undo();
        Edge.is(what + " is undone", x.savedStates() + " " + x.digest(), before + " " + digest);
    }

    /** As rich(), but without saved states, so that one more can be seen, and with an empty buffer. */
    private static GlideShelves unsaved() {
        GlideShelves x = Edge.unsaved(Edge::rich);
        x.clearBuffer();
        return x;
    }

    private static GlideShelves unstocked() {
        GlideShelves x = new GlideShelves();
        Check.order(x, "0*1");
        return x;
    }

    private static void savedAlsoIfNothingChanges() {
        Edge.of(0, "Each method that is marked \"undoable\" and does not throw an exception saves the state from before it, also if it changes nothing");
        saves("pack", new GlideShelves(), GlideShelves::pack);
        saves("serveAll", new GlideShelves(), GlideShelves::serveAll);
        saves("serveAll without stock", unstocked(), GlideShelves::serveAll);
        saves("changeLeast", new GlideShelves(), x -> x.changeLeast(0, 0));
        saves("changeWeight", new GlideShelves(), x -> x.changeWeight(0, 1));
        GlideShelves kept = new GlideShelves();
        kept.keep(0);
        saves("goBack", kept, x -> x.goBack(0));
    }

    private static void eachUndoableCallSaves() {
        Edge.of(0, "Each method that is marked \"undoable\" and does not throw an exception saves the state from before it");
        saves("addShelf", unsaved(), x -> x.addShelf(4));
        saves("scrap", unsaved(), x -> x.scrap(2));
        saves("fetch", unsaved(), x -> x.fetch(3));
        saves("turnRule", unsaved(), GlideShelves::turnRule);
        saves("goBack", unsaved(), x -> x.goBack(1));
        saves("goBack to another one", unsaved(), x -> x.goBack(0));
        GlideShelves x = unsaved();
        saves("accept", x, y -> Check.order(y, "1*1"));
        Check.order(x, "1*1");
        saves("cancel", x, y -> y.cancel(0));
        saves("serve", x, y -> y.serve(0));
        saves("serveAll", x, GlideShelves::serveAll);
        x.fetch(1);
        saves("stow", x, GlideShelves::stow);
        saves("stowAt", x, y -> y.stowAt(1, 16));
        saves("fill", x, y -> y.fill(9, 20));
        saves("take", x, y -> y.take(1, 5));
    }

    private static void saveNothing() {
        Edge.of(23, "Returns how many states are saved.");
        GlideShelves x = unsaved();
        x.keep(0);
        x.keep(1);
        x.append('1');
        x.firstError();
        x.clearBuffer();
        Edge.is("keep, append, firstError, clearBuffer save nothing", x.savedStates(), 0);
    }

    public static void main(String[] args) {
        promise20();
        promise21();
        snapshotsLeaveThese();
        promise22();
        atMost6States();
        savedAlsoIfNothingChanges();
        eachUndoableCallSaves();
        saveNothing();
        Edge.end("EdgeHistoryTest");
    }
}
