/** Edges of packing: promises 7 and 41. */
public final class EdgePackTest {
    private EdgePackTest() {
    }

    /** Packs, and looks whether wouldPack() tells the same before, and none after. */
    private static void packs(String what, GlideShelves x, int due) {
        Edge.is(what + ", told", x.wouldPack(), due);
        Edge.is(what, x.pack(), due);
        Edge.is(what + ", told then", x.wouldPack(), 0);
        Edge.is(what + ", once more", x.pack(), 0);
    }

    private static void promise7HowMany() {
        Edge.of(7, "Returns how many shelves have another place then.");
        packs("none there", new GlideShelves(), 0);
        packs("one at its place", Check.tower(4), 0);
        packs("12 at their places", Edge.twelve(), 0);
        packs("a full tower", Edge.full(), 0);
        GlideShelves far = Check.tower(4);
        Edge.move(far, 0, 1, 16);
        packs("one far away", far, 1);
        GlideShelves side = Check.tower(2, 2);
        Edge.use(side, 1, 1);
        packs("the same slots, other sides", side, 2);
        Edge.is("other sides", side.sideOf(0) + " " + side.sideOf(1), "1 0");
        GlideShelves all = Edge.twelve();
        Edge.use(all, 11, 1);
        packs("all 12", all, 12);
        Edge.is("the used one is the first", Edge.place(all, 11) + " " + Edge.place(all, 0), "0 20");
        GlideShelves scrapped = Edge.twelve();
        scrapped.scrap(0);
        packs("all 11 that are left", scrapped, 11);
    }

    private static void promise7Order() {
        Edge.of(7, "all shelves, by how often they were fetched, the most often one first, of like ones by their numbers");
        GlideShelves x = Check.tower(1, 1, 1, 1);
        Edge.use(x, 1, 1);
        Edge.use(x, 2, 2);
        Edge.use(x, 3, 1);
        packs("2, 1, 3, 0", x, 3);
        Edge.is("2 is the first", Edge.place(x, 2), 0);
        Edge.is("1 before 3", Edge.place(x, 1) + " " + Edge.place(x, 3), "20 1");
        Edge.is("0 was never fetched", Edge.place(x, 0), 21);
        Edge.use(x, 3, 1);
        packs("2, 3, 1, 0", x, 2);
        Edge.is("2 is still the first of like ones", Edge.place(x, 2) + " " + Edge.place(x, 3), "0 20");
        Edge.use(x, 3, 1);
        packs("3, 2, 1, 0", x, 2);
        Edge.is("3 is the first by one", Edge.place(x, 3) + " " + Edge.place(x, 2), "0 20");
    }

    private static void promise7TheLift() {
        Edge.of(7, "The lift stays where it is, and has no ticks from that.");
        GlideShelves x = Check.tower(1, 4);
        Edge.move(x, 1, 0, 16);
        int ticks = x.ticks();
        Edge.is("one moves", x.pack(), 2);
        Edge.is("the lift", x.lift() + " " + x.ticks() + " " + x.trips() + " " + x.tripTicks(0), "16 " + ticks + " 2 16");
        Edge.is("no fetching", x.fetches() + " " + x.fetchesOf(1), "1 1");
        Edge.is("saved", x.savedStates(), 5);
        x.undo();
        Edge.is("undone", Edge.place(x, 1) + " " + Edge.place(x, 0), "16 0");
    }

    private static void promise7Refused() {
        Edge.of(7, "Throws `IllegalStateException` if a shelf is at the window, or some would not fit");
        Edge.refuses(Edge.STATE, Edge::atWindow, GlideShelves::pack);
        Edge.refuses(Edge.STATE, () -> {
            GlideShelves x = Check.tower(1);
            x.fetch(0);
            return x;
        }, GlideShelves::pack);
        Edge.refuses(Edge.STATE, Edge::unpackable, GlideShelves::pack);
        GlideShelves x = Edge.unpackable();
        x.scrap(9);
        Edge.is("without the one that would not fit", x.pack() > 0, true);
        Edge.is("free are two at 18 behind and one at 19 in front", x.longestGap(1) + " " + x.longestGap(0), "2 1");
        Edge.is("two fit", x.addShelf(2) + " " + Edge.place(x, 11), "11 38");
        Edge.is("a full tower in its order", Check.tower(4, 4, 3, 3, 3, 3, 3, 3, 3, 3, 4, 4).pack(), 0);
    }

    private static void promise41() {
        Edge.of(41, "Throws `IllegalStateException` if a shelf is at the window, or some would not fit");
        Edge.refuses(Edge.STATE, Edge::atWindow, GlideShelves::wouldPack);
        Edge.refuses(Edge.STATE, Edge::unpackable, GlideShelves::wouldPack);
        GlideShelves x = Edge.atWindow();
        x.stow();
        Edge.is("after stowing, all move", x.wouldPack(), 4);
        GlideShelves y = Edge.unpackable();
        y.scrap(9);
        Edge.is("when it would fit", y.wouldPack(), y.pack());
        Edge.of(41, "Tells how many shelves would have another place, if the tower was packed.");
        Edge.is("none there", new GlideShelves().wouldPack(), 0);
        Edge.changesNothing("telling", Edge::rich, GlideShelves::wouldPack);
        Edge.changesNothing("telling of 12", () -> {
            GlideShelves z = Edge.twelve();
            Edge.use(z, 11, 1);
            return z;
        }, GlideShelves::wouldPack);
    }

    public static void main(String[] args) {
        promise7HowMany();
        promise7Order();
        promise7TheLift();
        promise7Refused();
        promise41();
        Edge.end("EdgePackTest");
    }
}
