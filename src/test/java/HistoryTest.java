import java.util.ArrayList;
import java.util.List;
import java.util.function.Consumer;

/** Snapshots and undo: promises 20 to 23, and which calls are undoable. */
public final class HistoryTest {
    private static final Class<?> ARGUMENT = IllegalArgumentException.class;
    private static final Class<?> STATE = IllegalStateException.class;

    private HistoryTest() {
    }

    /** All that a state holds, but for the buffer, the slots for snapshots and the saved states. */
    private static String stateOf(GlideShelves x) {
        StringBuilder all = new StringBuilder();
        for (int shelf = 0; shelf < x.shelves(); shelf++) {
            all.append(x.heightOf(shelf)).append(' ').append(x.sideOf(shelf)).append(' ').append(x.slotOf(shelf));
            all.append(' ').append(x.isAtWindow(shelf)).append(' ').append(x.fetchesOf(shelf)).append(':');
            for (int kind = 0; kind < 10; kind++) {
                all.append(x.thingsIn(shelf, kind)).append(' ');
            }
        }
        for (int kind = 0; kind < 10; kind++) {
            all.append(x.weightOfKind(kind)).append(' ').append(x.leastOf(kind)).append(' ');
            all.append(x.stockByAccount(kind)).append(' ');
        }
        for (int order = 0; order < x.orders(); order++) {
            for (int kind = 0; kind < 10; kind++) {
                all.append(x.wanted(order, kind)).append(' ');
            }
        }
        for (int ago = 0; ago < x.trips(); ago++) {
            all.append(x.tripTicks(ago)).append(x.wasFetch(ago)).append(' ');
        }
        return all.append(x.lift()).append(x.isKeptPlace()).append(x.ticks()).append(' ').append(x.fetches())
                .append(' ').append(x.served()).toString();
    }

    private static GlideShelves busy() {
        GlideShelves x = Check.tower(2, 4, 1);
        Check.restock(x, 0, 0, 5);
        Check.restock(x, 1, 1, 5);
        Check.order(x, "0*2");
        Check.order(x, "1*2");
        x.changeLeast(3, 4);
        return x;
    }

    private static void undoes(String what, GlideShelves x, Consumer<GlideShelves> call) {
        String before = stateOf(x);
        int saved = x.savedStates();
        call.accept(x);
        Check.is("23: saved by " + what, x.savedStates(), Math.min(saved + 1, 6));
        x.undo();
        Check.is("22: undone: " + what, stateOf(x), before);
    }

    private static void promise22EachUndoableCall() {
        // A new object each time, so that none is asked for more than 512 calls.
        undoes("addShelf", busy(), x -> x.addShelf(3));
        undoes("scrap", busy(), x -> x.scrap(2));
        undoes("fetch", busy(), x -> x.fetch(2));
        undoes("pack", busy(), GlideShelves::pack);
        undoes("accept", busy(), x -> Check.order(x, "9*9"));
        undoes("cancel", busy(), x -> x.cancel(0));
        undoes("serve", busy(), x -> x.serve(1));
        undoes("serveAll", busy(), GlideShelves::serveAll);
        undoes("changeLeast", busy(), x -> x.changeLeast(3, 5));
        undoes("changeLeast to the same", busy(), x -> x.changeLeast(3, 4));
        undoes("changeWeight", busy(), x -> x.changeWeight(0, 9));
        undoes("turnRule", busy(), GlideShelves::turnRule);
        undoes("stow", fetched(), GlideShelves::stow);
        undoes("stowAt", fetched(), x -> x.stowAt(1, 16));
        undoes("fill", fetched(), x -> x.fill(5, 20));
        undoes("take", fetched(), x -> x.take(1, 5));
        GlideShelves kept = new GlideShelves();
        kept.keep(1);
        kept.addShelf(2);
        undoes("goBack", kept, x -> x.goBack(1));
        GlideShelves buffer = new GlideShelves();
        Check.order(buffer, "9*9");
        buffer.undo();
        Check.is("22: not the buffer", buffer.clearBuffer(), 0);
    }

    private static GlideShelves fetched() {
        GlideShelves x = busy();
        x.fetch(1);
        return x;
    }

    private static void promise23NoOtherCallSaves() {
        GlideShelves x = new GlideShelves();
        x.addShelf(1);
        x.keep(0);
        x.append(48);
        x.firstError();
        x.clearBuffer();
        x.wouldPack();
        x.servable();
        x.digest();
        x.shelves();
        Check.is("23: one", x.savedStates(), 1);
        Check.fails("23: one that throws", x, STATE, x::stow);
        Check.fails("23: another one that throws", x, ARGUMENT, () -> x.addShelf(9));
        Check.is("23: still one", x.savedStates(), 1);
    }

    private static String leastsOf(GlideShelves x) {
        StringBuilder all = new StringBuilder();
        for (int kind = 0; kind < 10; kind++) {
            all.append(x.leastOf(kind)).append(' ');
        }
        return all.toString();
    }

    private static void promise22And23SixStates() {
        GlideShelves x = new GlideShelves();
        Check.failsToRun("22: none", x, STATE, x::undo);
        List<String> states = new ArrayList<>();
        for (int i = 0; i < 9; i++) {
            states.add(leastsOf(x));
            x.changeLeast(i, 10 + i);
            Check.is("23: saved", x.savedStates(), Math.min(i + 1, 6));
        }
        for (int i = 8; i >= 3; i--) {
            x.undo();
            Check.is("22: undone " + i, leastsOf(x), states.get(i));
            Check.is("23: dropped", x.savedStates(), i - 3);
        }
        Check.failsToRun("22: the oldest ones are dropped", x, STATE, x::undo);
        Check.is("22: these stay", x.leastOf(2) + "," + x.leastOf(3), "12,0");
        x.turnRule();
        x.turnRule();
        x.undo();
        x.changeWeight(1, 2);
        x.undo();
        Check.is("22: the latest one", x.isKeptPlace() + "," + x.weightOfKind(1), "false,1");
        x.undo();
        Check.is("22: and the one before", x.isKeptPlace(), true);
    }

    private static void changeAll(GlideShelves x) {
        x.fetch(1);
        x.fill(7, 7);
        x.turnRule();
        x.cancel(0);
        x.changeWeight(2, 8);
    }

    /** A snapshot of busy() in slot 0, one of what changeAll() makes of it in slot 1, and one call more. */
    private static GlideShelves twoKept() {
        GlideShelves x = busy();
        x.keep(0);
        changeAll(x);
        x.keep(1);
        x.stow();
        return x;
    }

    private static void promise20And21Refused() {
        GlideShelves x = busy();
        for (int slot : new int[] {-1, 2, Integer.MIN_VALUE, Integer.MAX_VALUE}) {
            Check.failsToRun("20: slot " + slot, x, ARGUMENT, () -> x.keep(slot));
            Check.failsToRun("21: slot " + slot, x, ARGUMENT, () -> x.goBack(slot));
        }
        int saved = x.savedStates();
        x.keep(0);
        Check.is("20: not undoable", x.savedStates(), saved);
        Check.failsToRun("21: the other one is empty", x, STATE, () -> x.goBack(1));
    }

    private static void promise20And21Snapshots() {
        GlideShelves changed = busy();
        changeAll(changed);
        String first = stateOf(busy());
        String second = stateOf(changed);
        GlideShelves x = twoKept();
        Check.type(x, "4*4");
        x.goBack(0);
        Check.is("21: the first", stateOf(x), first);
        Check.is("21: not the buffer", x.clearBuffer(), 3);
        x.goBack(1);
        Check.is("21: the second", stateOf(x), second);
        x.undo();
        Check.is("21: undone", stateOf(x), first);
        GlideShelves y = twoKept();
        y.goBack(0);
        y.scrap(2);
        y.goBack(0);
        Check.is("21: it stays", stateOf(y), first);
        y.undo();
        Check.is("21: undone to the state before", y.shelves(), 2);
        y.keep(0);
        y.undo();
        y.goBack(0);
        Check.is("20: in place of the one before", y.shelves(), 2);
        y.goBack(1);
        Check.is("20: the other one stays", stateOf(y), second);
    }

    private static void promise21UndoLeavesSnapshots() {
        GlideShelves x = new GlideShelves();
        x.addShelf(4);
        x.keep(0);
        x.undo();
        Check.is("22: undone", x.shelves(), 0);
        x.goBack(0);
        Check.is("21: undo leaves snapshots", x.shelves(), 1);
        Check.is("21: and is saved", x.savedStates(), 1);
        Check.type(x, "1*1");
        x.undo();
        Check.is("22: the buffer stays", x.clearBuffer(), 3);
    }

    public static void main(String[] args) {
        promise22EachUndoableCall();
        promise23NoOtherCallSaves();
        promise22And23SixStates();
        promise20And21Refused();
        promise20And21Snapshots();
        promise21UndoLeavesSnapshots();
        Check.end("HistoryTest");
    }
}
