/** The lift, its trips and the accounts: promises 4, 5, 16, 31, 39, 40, 43 to 45, 64, 65, 67 and 69 to 72. */
public final class LiftTest {
    private static final Class<?> INDEX = IndexOutOfBoundsException.class;
    private static final Class<?> STATE = IllegalStateException.class;

    private LiftTest() {
    }

    /** Places: shelf 0 at 0 in front, 1 at 0 behind, 2 at 2 in front, 3 at 3 in front, 4 at 4 behind. */
    private static GlideShelves five() {
        return Check.tower(2, 4, 1, 3, 2);
    }

    private static void promise4Fetch() {
        GlideShelves x = five();
        Check.is("4: from 0 to 3, and 3 to the window", x.fetch(3), 6);
        Check.is("4: the lift", x.lift(), 0);
        Check.is("4: at the window", x.atWindow(), 3);
        Check.is("4: its slots are free", x.isFree(0, 3), true);
        Check.is("4: fetches", x.fetchesOf(3) + x.fetches(), 2);
        Check.is("4: a trip", x.tripTicks(0) + "," + x.wasFetch(0), "6,true");
        Check.fails("4: at the window", x, STATE, () -> x.fetch(0));
        Check.fails("4: itself", x, STATE, () -> x.fetch(3));
        Check.fails("4: no shelf, the first one named", x, INDEX, () -> x.fetch(5));
        x.stow();
        Check.is("4: from 3 to 4, and 6 to the window", x.fetch(4), 7);
        x.stow();
        Check.is("4: from 4 to 0, and 2 to the window", x.fetch(1), 6);
        x.stow();
        Check.is("4: from 0 to 0, and 0 to the window", x.fetch(0), 0);
        Check.is("4: ticks", x.ticks(), 6 + 3 + 7 + 6 + 6 + 2);
        x.undo();
        Check.is("4: undone", x.fetchesOf(0) + x.fetches(), 3);
        Check.fails("4: below", x, INDEX, () -> x.fetch(-1));
        Check.fails("4: far above", x, INDEX, () -> x.fetch(Integer.MAX_VALUE));
    }

    private static void promise5Stow() {
        GlideShelves x = five();
        Check.fails("5: none", x, STATE, x::stow);
        x.fetch(4);
        Check.is("5: where it was", x.stow(), 6);
        Check.is("5: the lift", x.lift(), 4);
        Check.is("5: the place", x.sideOf(4) + "," + x.slotOf(4), "1,4");
        Check.is("5: a trip", x.tripTicks(0) + "," + x.wasFetch(0), "6,false");
        Check.is("5: no fetch", x.fetches(), 1);
        Check.fails("5: none any more", x, STATE, x::stow);
        x.fetch(0);
        x.stowAt(1, 10);
        x.turnRule();
        x.fetch(4);
        Check.is("5: at the first place that fits", x.stow(), 0);
        Check.is("5: its place", x.sideOf(4) + "," + x.slotOf(4), "0,0");
        x.fetch(3);
        Check.is("5: its own place is among them", x.stow(), 3);
        x.fetch(0);
        Check.is("5: behind, lower", x.stow(), 6);
        Check.is("5: its place", x.sideOf(0) + "," + x.slotOf(0), "1,4");
        x.undo();
        Check.is("5: undone", x.atWindow() + "," + x.slotOf(0), "0,10");
    }

    private static void promise16And40TurnRule() {
        GlideShelves x = five();
        Check.is("40: at first", x.isKeptPlace(), true);
        Check.is("16: to the first place", x.turnRule(), false);
        Check.is("40: the first place", x.isKeptPlace(), false);
        Check.is("16: undoable", x.savedStates(), 6);
        Check.is("16: back", x.turnRule(), true);
        Check.is("40: where they were", x.isKeptPlace(), true);
        x.undo();
        Check.is("16: undone", x.isKeptPlace(), false);
        x.fetch(0);
        Check.is("16: also with one at the window", x.turnRule(), true);
    }

    private static void promise31FetchesOf() {
        GlideShelves x = five();
        Check.restock(x, 3, 0, 2);
        Check.restock(x, 3, 0, 2);
        Check.is("31: twice", x.fetchesOf(3), 2);
        Check.order(x, "0*3");
        x.serve(0);
        Check.is("31: by serving, too", x.fetchesOf(3), 3);
        Check.is("31: never", x.fetchesOf(4), 0);
        for (int shelf : new int[] {-1, 5, Integer.MIN_VALUE, Integer.MAX_VALUE}) {
            Check.fails("31: " + shelf, x, INDEX, () -> x.fetchesOf(shelf));
        }
    }

    private static void promise39Lift() {
        GlideShelves x = five();
        Check.is("39: at first", x.lift(), 0);
        x.fetch(2);
        Check.is("39: at the window", x.lift(), 0);
        x.stowAt(1, 19);
        Check.is("39: at the top", x.lift(), 19);
        x.fetch(4);
        x.stow();
        Check.is("39: at its slot", x.lift(), 4);
    }

    private static void promise43To45Trips() {
        GlideShelves x = five();
        Check.is("43: none", x.trips(), 0);
        Check.fails("44: none", x, INDEX, () -> x.tripTicks(0));
        Check.fails("45: none", x, INDEX, () -> x.wasFetch(0));
        int[] due = {6, 3, 7, 6, 6, 2, 0, 0, 4, 2};
        int[] shelves = {3, 4, 1, 0, 2};
        for (int trip = 0; trip < due.length; trip++) {
            Check.is("44: the trip", trip % 2 == 0 ? x.fetch(shelves[trip / 2]) : x.stow(), due[trip]);
            Check.is("43: trips", x.trips(), Math.min(trip + 1, 8));
            for (int ago = 0; ago < x.trips(); ago++) {
                Check.is("44: " + ago + " ago", x.tripTicks(ago), due[trip - ago]);
                Check.is("45: " + ago + " ago", x.wasFetch(ago), (trip - ago) % 2 == 0);
            }
            int over = x.trips();
            Check.fails("44: not so many", x, INDEX, () -> x.tripTicks(over));
            Check.fails("45: not so many", x, INDEX, () -> x.wasFetch(over));
        }
        for (int ago : new int[] {-1, 8, Integer.MIN_VALUE, Integer.MAX_VALUE}) {
            Check.fails("44: " + ago, x, INDEX, () -> x.tripTicks(ago));
            Check.fails("45: " + ago, x, INDEX, () -> x.wasFetch(ago));
        }
        x.undo();
        Check.is("43: undone", x.tripTicks(0) + "," + x.wasFetch(0) + "," + x.tripTicks(7), "4,true,3");
    }

    private static void promise43ServingMakesTrips() {
        GlideShelves x = five();
        Check.restock(x, 2, 1, 5);
        Check.order(x, "1*4");
        x.serve(0);
        Check.is("43: with those of serving", x.trips(), 4);
        Check.is("44: stowing", x.tripTicks(0), 2);
        Check.is("44: fetching, with the lift there", x.tripTicks(1), 2);
        Check.is("45: one of each", !x.wasFetch(0) && x.wasFetch(1), true);
    }

    private static void promise64And65Accounts() {
        GlideShelves x = five();
        Check.is("64: none", x.ticks(), 0);
        Check.is("65: none", x.fetches(), 0);
        x.fetch(3);
        x.stow();
        x.fetch(2);
        Check.is("64: ticks", x.ticks(), 6 + 3 + 3);
        Check.is("65: fetches", x.fetches(), 2);
        x.stow();
        x.scrap(2);
        Check.is("65: of scrapped ones, too", x.fetches(), 2);
        Check.is("64: of scrapped ones, too", x.ticks(), 6 + 3 + 3 + 2);
        Check.restock(x, 0, 0, 1);
        Check.order(x, "0*1");
        int before = x.ticks();
        Check.is("64: of serving, too", x.serve(0), x.ticks() - before);
        Check.is("65: of serving, too", x.fetches(), 4);
        x.undo();
        Check.is("64: undone", x.ticks(), before);
    }

    private static void promise67FetchTicks() {
        GlideShelves x = five();
        Check.is("67: all", x.fetchTicks(0) + "," + x.fetchTicks(1) + "," + x.fetchTicks(2) + ","
                + x.fetchTicks(3) + "," + x.fetchTicks(4), "0,2,4,6,10");
        x.fetch(3);
        Check.fails("67: at the window", x, STATE, () -> x.fetchTicks(0));
        Check.fails("67: no shelf, the first one named", x, INDEX, () -> x.fetchTicks(5));
        x.stow();
        Check.is("67: from 3", x.fetchTicks(0) + "," + x.fetchTicks(1) + "," + x.fetchTicks(2) + ","
                + x.fetchTicks(3) + "," + x.fetchTicks(4), "3,5,3,3,7");
        Check.is("67: as fetch", x.fetch(1), 5);
        x.stow();
        for (int shelf : new int[] {-1, 5, Integer.MIN_VALUE, Integer.MAX_VALUE}) {
            Check.fails("67: " + shelf, x, INDEX, () -> x.fetchTicks(shelf));
        }
    }

    private static void promise69To72Use() {
        GlideShelves x = new GlideShelves();
        Check.fails("69: none", x, STATE, x::mostFetched);
        Check.is("70: none", x.usedWays(), 0);
        Check.is("71: none", x.meanWay(), 0.0);
        Check.is("72: none", x.meanTicks(), 0.0);
        for (int height : new int[] {2, 4, 1, 3, 2}) {
            x.addShelf(height);
        }
        Check.is("69: all like", x.mostFetched(), 0);
        Check.is("71: never fetched", x.meanWay(), 0.0);
        x.fetch(4);
        Check.is("69: the only one", x.mostFetched(), 4);
        Check.is("70: at the window, the place that it had", x.usedWays(), 6);
        Check.is("71: one", x.meanWay(), 6.0);
        Check.is("72: one", x.meanTicks(), 10.0);
        x.stow();
        x.fetch(3);
        x.stow();
        Check.is("69: the lowest", x.mostFetched(), 3);
        x.fetch(4);
        x.stow();
        Check.is("69: the most", x.mostFetched(), 4);
        Check.is("70: by use", x.usedWays(), 2 * 6 + 3);
        Check.is("71: by use", x.meanWay(), 15.0 / 3.0);
        Check.is("72: ticks", x.meanTicks(), (10 + 6 + 4 + 3 + 7 + 6) / 3.0);
        x.fetch(3);
        x.stowAt(0, 10);
        Check.is("70: the new place", x.usedWays(), 2 * 6 + 2 * 10);
        x.scrap(4);
        Check.is("70: without the scrapped one", x.usedWays(), 20);
        Check.is("71: without the scrapped one", x.meanWay(), 10.0);
        Check.is("72: with the scrapped one", x.meanTicks(), (36 + 4 + 10) / 4.0);
    }

    public static void main(String[] args) {
        promise4Fetch();
        promise5Stow();
        promise16And40TurnRule();
        promise31FetchesOf();
        promise39Lift();
        promise43To45Trips();
        promise43ServingMakesTrips();
        promise64And65Accounts();
        promise67FetchTicks();
        promise69To72Use();
        Check.end("LiftTest");
    }
}
