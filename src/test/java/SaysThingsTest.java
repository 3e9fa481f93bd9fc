/** What is told of things and of orders, where no test of edges asks it: promises 46 to 63. */
public final class SaysThingsTest {
    private SaysThingsTest() {
    }

    private static void weightOfKind() {
        Edge.of(46, "Returns how heavy a thing of a kind is.");
        Edge.each(Edge.rich(), GlideShelves::weightOfKind, 1, 3, 1, 1, 1, 1, 1, 1, 1, 1);
        Edge.of(46, "Returns the weight.");
        GlideShelves x = Edge.rich();
        for (int kind = 0; kind < 10; kind++) {
            x.changeWeight(kind, kind == 0 ? 9 : kind);
        }
        Edge.each(x, GlideShelves::weightOfKind, 9, 1, 2, 3, 4, 5, 6, 7, 8, 9);
    }

    private static void stocks() {
        Edge.of(47, "Tells how many things of a kind there are, shelf by shelf.");
        Edge.each(Edge.rich(), GlideShelves::stockByShelves, 11, 5, 1, 0, 0, 0, 0, 0, 0, 0);
        Edge.each(Edge.atWindow(), GlideShelves::stockByShelves, 11, 5, 1, 0, 0, 0, 0, 0, 0, 0);
        Edge.of(47, "Returns the things.");
        Edge.each(Edge.served(), GlideShelves::stockByShelves, 2, 5, 1, 0, 0, 0, 0, 0, 0, 0);
        Edge.of(48, "Tells how many things of a kind there are, by those that were filled in so far, less those taken so far.");
        Edge.each(Edge.rich(), GlideShelves::stockByAccount, 11, 5, 1, 0, 0, 0, 0, 0, 0, 0);
        Edge.each(Edge.served(), GlideShelves::stockByAccount, 2, 5, 1, 0, 0, 0, 0, 0, 0, 0);
        GlideShelves x = Edge.atWindow();
        x.fill(9, 20);
        x.fill(9, 3);
        x.take(9, 4);
        x.take(1, 5);
        Edge.each(x, GlideShelves::stockByAccount, 11, 0, 1, 0, 0, 0, 0, 0, 0, 19);
        x.take(9, 19);
        x.stow();
        x.scrap(1);
        Edge.each(x, GlideShelves::stockByAccount, 11, 0, 1, 0, 0, 0, 0, 0, 0, 0);
        x.serve(0);
        Edge.each(x, GlideShelves::stockByAccount, 2, 0, 1, 0, 0, 0, 0, 0, 0, 0);
    }

    private static void shelvesWith() {
        Edge.of(49, "Returns how many shelves have things of a kind.");
        Edge.each(Edge.rich(), GlideShelves::shelvesWith, 2, 1, 1, 0, 0, 0, 0, 0, 0, 0);
        Edge.each(Edge.atWindow(), GlideShelves::shelvesWith, 2, 1, 1, 0, 0, 0, 0, 0, 0, 0);
        Edge.of(49, "Returns the shelves.");
        Edge.each(Edge.served(), GlideShelves::shelvesWith, 1, 1, 1, 0, 0, 0, 0, 0, 0, 0);
        GlideShelves x = Edge.rich();
        for (int shelf = 0; shelf < 4; shelf++) {
            Check.restock(x, shelf, 7, 2);
            Edge.is("one more", x.shelvesWith(7), shelf + 1);
        }
    }

    private static void leasts() {
        Edge.of(50, "Returns how many things of a kind there should be at the least.");
        Edge.each(Edge.rich(), GlideShelves::leastOf, 0, 0, 9, 0, 0, 0, 0, 0, 0, 0);
        Edge.of(50, "Returns the things.");
        GlideShelves x = Edge.rich();
        for (int kind = 0; kind < 10; kind++) {
            x.changeLeast(kind, 11 - kind);
        }
        Edge.each(x, GlideShelves::leastOf, 11, 10, 9, 8, 7, 6, 5, 4, 3, 2);
        Edge.of(51, "Returns how many things of a kind are missing.");
        Edge.each(Edge.rich(), GlideShelves::missingOf, 0, 0, 8, 0, 0, 0, 0, 0, 0, 0);
        Edge.each(x, GlideShelves::missingOf, 0, 5, 8, 8, 7, 6, 5, 4, 3, 2);
        Edge.of(52, "Returns the kinds, as a set of bits.");
        Edge.is("the kind 2", Edge.rich().shortKinds(), 0b100);
        Edge.is("all but the kind 0", x.shortKinds(), 0b1111111110);
        x.changeLeast(0, 12);
        x.changeLeast(5, 0);
        Edge.is("the kind 0, too, not the kind 5", x.shortKinds(), 0b1111011111);
        x.serve(1);
        x.changeLeast(1, 3);
        Edge.is("as many of the kind 1 as there should be", x.shortKinds(), 0b1111011101);
    }

    private static void orders() {
        Edge.of(53, "Returns how many orders there are.");
        Edge.is("three", Edge.rich().orders() + " " + Edge.atWindow().orders(), "3 3");
        Edge.is("two", Edge.served().orders(), 2);
        GlideShelves x = Edge.rich();
        x.cancel(0);
        x.cancel(1);
        Edge.is("one", x.orders(), 1);
        x.undo();
        Edge.is("two again", x.orders(), 2);
        Edge.of(54, "Returns how many things of a kind an order wants.");
        Edge.each(Edge.rich(), (y, kind) -> y.wanted(0, kind), 9, 0, 0, 0, 0, 0, 0, 0, 0, 0);
        Edge.each(Edge.rich(), (y, kind) -> y.wanted(1, kind), 0, 2, 1, 0, 0, 0, 0, 0, 0, 0);
        Edge.of(54, "Returns the things.");
        Edge.each(Edge.rich(), (y, kind) -> y.wanted(2, kind), 0, 0, 0, 0, 0, 1, 0, 0, 0, 0);
        Edge.each(Edge.served(), (y, kind) -> y.wanted(0, kind), 0, 2, 1, 0, 0, 0, 0, 0, 0, 0);
        Edge.of(55, "Returns how many things an order wants.");
        Edge.each(Edge.rich(), GlideShelves::thingsOf, 9, 3, 1);
        Edge.of(55, "Returns the things of all kinds, together.");
        Edge.each(Edge.served(), GlideShelves::thingsOf, 3, 1);
        Edge.each(x, GlideShelves::thingsOf, 3, 1);
    }

    private static void canServe() {
        Edge.of(56, "Returns true if so.");
        Edge.each(Edge.rich(), GlideShelves::canServe, true, true, false);
        Edge.each(Edge.atWindow(), GlideShelves::canServe, true, true, false);
        Edge.each(Edge.served(), GlideShelves::canServe, true, false);
        GlideShelves x = Edge.rich();
        Check.restock(x, 2, 5, 1);
        Edge.each(x, GlideShelves::canServe, true, true, true);
        x.fetch(0);
        x.take(0, 3);
        // There are 8 of the kind 0 now, 9 are wanted.
        Edge.each(x, GlideShelves::canServe, false, true, true);
    }

    private static void choices() {
        Edge.of(57, "Returns the shelves.");
        GlideShelves x = Edge.rich();
        Check.restock(x, 2, 5, 1);
        Edge.each(x, GlideShelves::fewestByTrying, 2, 2, 1);
        Edge.of(58, "Returns the shelves, as few as by fewestByTrying().");
        Edge.each(x, GlideShelves::fewestByGoing, 2, 2, 1);
        Edge.of(59, "Tells the choice of shelves of an order.");
        Edge.each(x, GlideShelves::choiceFor, 0b1001, 0b1010, 0b0100);
        Edge.of(59, "Returns the shelves, as a set of bits.");
        Check.restock(x, 2, 0, 9);
        Edge.each(x, GlideShelves::choiceFor, 0b0100, 0b1010, 0b0100);
        Check.restock(x, 1, 2, 1);
        Edge.each(x, GlideShelves::choiceFor, 0b0100, 0b0010, 0b0100);
        Edge.each(x, GlideShelves::fewestByTrying, 1, 1, 1);
        Edge.each(x, GlideShelves::fewestByGoing, 1, 1, 1);
    }

    private static void ticks() {
        Edge.of(60, "Tells the ticks of serving an order, by doing so on a copy.");
        Edge.each(Edge.rich(), GlideShelves::ticksByServing, 12, 16);
        for (int order = 0; order < 2; order++) {
            GlideShelves x = Edge.rich();
            Edge.is("as by doing so", x.ticksByServing(order), x.serve(order));
            GlideShelves low = Edge.rich();
            low.scrap(2);
            low.turnRule();
            Edge.is("as by doing so, by the other rule", low.ticksByServing(order), low.serve(order));
        }
        Edge.changesNothing("doing so on a copy", Edge::rich, x -> x.ticksByServing(0));
        Edge.of(60, "Returns the ticks.");
        Edge.each(Edge.served(), GlideShelves::ticksByServing, 16);
        Edge.of(61, "Tells the ticks of serving an order, if shelves are stowed where they were, by sums.");
        Edge.each(Edge.rich(), GlideShelves::ticksBySums, 12, 16);
        Edge.each(Edge.served(), GlideShelves::ticksBySums, 16);
        GlideShelves far = Edge.rich();
        Edge.move(far, 1, 1, 16);
        // From 16 to 0, to 3 and twice 3; from 16 to 16 and twice 18, then from 16 to 3 and twice 3.
        Edge.each(far, GlideShelves::ticksBySums, 16 + 3 + 6, 36 + 13 + 6);
        Edge.each(far, GlideShelves::ticksByServing, 16 + 3 + 6, 36 + 13 + 6);
    }

    private static void whatCanBeServed() {
        Edge.of(62, "Finds the order that takes the fewest ticks to serve now.");
        Edge.is("12 and 16 ticks", Edge.rich().cheapestOrder(), 0);
        Edge.is("the only one that can be", Edge.served().cheapestOrder(), 0);
        GlideShelves x = Edge.rich();
        Check.restock(x, 2, 5, 1);
        // The lift is at 2: 2 and 3 and 6, 2 and 4 and 3 and 6, and 0 and 4 ticks.
        Edge.is("11, 15 and 4 ticks", x.cheapestOrder(), 2);
        x.cancel(0);
        Edge.is("1 less", x.cheapestOrder(), 1);
        Edge.move(x, 2, 1, 19);
        // 19 and 4 and 3 and 6, and 0 and 42 ticks.
        Edge.is("now, 32 and 42 ticks", x.cheapestOrder(), 0);
        Edge.of(63, "Returns the orders.");
        Edge.is("two of three", Edge.rich().servable(), 2);
        Edge.is("one of two", Edge.served().servable(), 1);
        GlideShelves all = Edge.rich();
        Check.restock(all, 2, 5, 1);
        Edge.is("three of three", all.servable(), 3);
        all.serveAll();
        Edge.is("as by serveAll()", all.served() + " " + all.servable(), "3 0");
    }

    public static void main(String[] args) {
        weightOfKind();
        stocks();
        shelvesWith();
        leasts();
        orders();
        canServe();
        choices();
        ticks();
        whatCanBeServed();
        Edge.end("SaysThingsTest");
    }
}
