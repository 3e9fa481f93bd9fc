/** Edges of what is told of orders: promises 53 to 63. */
public final class EdgeOrderTellsTest {
    private EdgeOrderTellsTest() {
    }

    /** What is asked of an order is refused of one that there is not. */
    private static void refusesNoOrder(Edge.IntAct call) {
        Edge.refuses(Edge.INDEX, GlideShelves::new, x -> call.on(x, 0));
        Edge.refusesEach(Edge.INDEX, Edge::rich, Edge.outside(0, 2), call);
        // Named before the other one, where a shelf at the window is refused or no order can be served.
        Edge.refusesEach(Edge.INDEX, Edge::atWindow, Edge.outside(0, 2), call);
        Edge.refusesEach(Edge.INDEX, Edge::eightOrders, Edge.outside(0, 7), call);
        Edge.refuses(Edge.INDEX, () -> {
            GlideShelves x = Edge.eightOrders();
            x.cancel(0);
            return x;
        }, x -> call.on(x, 7));
    }

    /** 12 shelves with a thing of the kind 9 each; the first one has 2 of the kind 0, too, the last one 3. */
    private static GlideShelves stocked(String... texts) {
        GlideShelves x = Edge.twelve();
        for (int shelf = 0; shelf < 12; shelf++) {
            x.fetch(shelf);
            x.fill(9, 1);
            if (shelf % 11 == 0) {
                x.fill(0, 2 + shelf / 11);
            }
            x.stow();
        }
        for (String text : texts) {
            Check.order(x, text);
        }
        return x;
    }

    private static void promise53() {
        Edge.of(53, "Returns 0 to 8.");
        GlideShelves x = new GlideShelves();
        Edge.is("none", x.orders(), 0);
        for (int orders = 1; orders <= 8; orders++) {
            Check.order(x, "0*1");
            Edge.is("one more", x.orders(), orders);
        }
        x.cancel(0);
        Edge.is("one less", x.orders(), 7);
        GlideShelves y = stocked("0*5");
        y.serve(0);
        Edge.is("none is left", y.orders(), 0);
    }

    private static void promise54() {
        Edge.of(54, "- `order`: the number of the order");
        Edge.is("the first of 8", Edge.eightOrders().wanted(0, 0), 1);
        Edge.is("the last of 8", Edge.eightOrders().wanted(7, 7), 8);
        Edge.of(54, "- `kind`: 0 to 9");
        GlideShelves x = stocked("0*1,9*20", "1*2", Edge.ALL_KINDS);
        Edge.is("the first and the last", x.wanted(0, 0) + " " + x.wanted(0, 9), "1 20");
        Edge.is("those beside", x.wanted(0, 1) + " " + x.wanted(0, 8) + " " + x.wanted(1, 0), "0 0 0");
        Edge.is("all", x.wanted(2, 0) + " " + x.wanted(2, 5) + " " + x.wanted(2, 9), "20 20 20");
        Edge.of(54, "Throws `IndexOutOfBoundsException` if there is no such order or kind");
        refusesNoOrder((y, order) -> y.wanted(order, 0));
        refusesNoOrder((y, order) -> y.wanted(order, 9));
        for (int order = 0; order < 3; order++) {
            int o = order;
            Edge.refusesEach(Edge.INDEX, Edge::rich, Edge.outside(0, 9), (y, kind) -> y.wanted(o, kind));
        }
        Edge.refuses(Edge.INDEX, Edge::rich, y -> y.wanted(-1, 10));
        Edge.refuses(Edge.INDEX, Edge::rich, y -> y.wanted(3, -1));
        Edge.refuses(Edge.INDEX, Edge::rich, y -> y.wanted(3, -10));
    }

    private static void promise55() {
        Edge.of(55, "- `order`: the number of the order");
        Edge.is("the first of 8", Edge.eightOrders().thingsOf(0), 1);
        Edge.is("the last of 8", Edge.eightOrders().thingsOf(7), 8);
        Edge.is("the most", stocked(Edge.ALL_KINDS).thingsOf(0), 200);
        Edge.is("the first and the last kind", stocked("0*3,9*4").thingsOf(0), 7);
        Edge.of(55, "Throws `IndexOutOfBoundsException` if there is no such order");
        refusesNoOrder(GlideShelves::thingsOf);
    }

    private static void promise56() {
        Edge.of(56, "- `order`: the number of the order");
        GlideShelves eight = Edge.eightOrders();
        eight.addShelf(1);
        Check.restock(eight, 0, 7, 8);
        for (int order = 0; order < 8; order++) {
            Edge.is("order " + order, eight.canServe(order), order == 7);
        }
        Edge.of(56, "Tells whether an order can be served by the things that there are.");
        GlideShelves x = stocked("9*12", "9*13", "0*5", "0*6", "0*5,9*12", "0*5,9*13", "0*6,9*12", "0*1,1*1");
        boolean[] dues = {true, false, true, false, true, false, false, false};
        for (int order = 0; order < 8; order++) {
            Edge.is("order " + order, x.canServe(order), dues[order]);
        }
        x.fetch(0);
        Edge.is("with one at the window", x.canServe(4), true);
        x.take(9, 1);
        Edge.is("one thing less", x.canServe(4) + " " + x.canServe(0) + " " + x.canServe(2), "false false true");
        GlideShelves none = Edge.eightOrders();
        Edge.is("no shelves", none.canServe(0), false);
        Edge.of(56, "Throws `IndexOutOfBoundsException` if there is no such order");
        refusesNoOrder(GlideShelves::canServe);
    }

    private static void choice(GlideShelves x, int order, int due) {
        Edge.is("choice of " + order, x.choiceFor(order), due);
        Edge.is("fewest of " + order, x.fewestByTrying(order) + " " + x.fewestByGoing(order),
                Integer.bitCount(due) + " " + Integer.bitCount(due));
    }

    private static void promise57To59() {
        Edge.of(57, "- `order`: the number of the order");
        GlideShelves eight = Edge.eightOrders();
        eight.addShelf(1);
        Check.restock(eight, 0, 7, 8);
        Check.restock(eight, 0, 0, 1);
        Edge.is("the first and the last", eight.fewestByTrying(0) + " " + eight.fewestByTrying(7), "1 1");
        Edge.of(58, "- `order`: the number of the order");
        Edge.is("the first and the last", eight.fewestByGoing(0) + " " + eight.fewestByGoing(7), "1 1");
        Edge.of(59, "- `order`: the number of the order");
        Edge.is("the first and the last", eight.choiceFor(0) + " " + eight.choiceFor(7), "1 1");
        Edge.of(58, "Returns the shelves, as few as by fewestByTrying().");
        GlideShelves x = stocked("9*12", "9*1", "9*11", "0*5", "0*3", "0*2", "0*3,9*3", "0*5,9*12");
        int[] dues = {0xFFF, 1, 0x7FF, 0x801, 0x800, 1, 0x803, 0xFFF};
        for (int order = 0; order < 8; order++) {
            choice(x, order, dues[order]);
        }
        x.fetch(11);
        for (int order = 0; order < 8; order++) {
            choice(x, order, dues[order]);
        }
        x.take(0, 1);
        choice(x, 4, 0x801);
    }

    /** Shelves with these numbers of things of the kind 0, and the order. */
    private static GlideShelves shelvesOf(String text, int... things) {
        GlideShelves x = new GlideShelves();
        for (int shelf = 0; shelf < things.length; shelf++) {
            x.addShelf(1);
            if (things[shelf] > 0) {
                Check.restock(x, shelf, 0, things[shelf]);
            }
        }
        Check.order(x, text);
        return x;
    }

    private static void promise57To59EachOnce() {
        Edge.of(58, "Tells how few shelves can serve an order, by going from shelf to shelf, which is taken or left, as long as"
                + " fewer shelves are taken than were found to be enough.");
        choice(shelvesOf("0*5", 3, 1, 1), 0, 0b111);
        choice(shelvesOf("0*6", 3, 3, 5), 0, 0b011);
        choice(shelvesOf("0*6", 1, 1, 1, 1, 1, 1), 0, 0b111111);
        choice(shelvesOf("0*6", 1, 1, 1, 1, 1, 1, 6), 0, 0b1000000);
        choice(shelvesOf("0*6", 1, 1, 1, 1, 2, 5), 0, 0b100001);
        choice(shelvesOf("0*6", 6, 1, 1, 1, 2, 5), 0, 0b000001);
        choice(shelvesOf("0*7", 0, 0, 4, 0, 4, 0, 4), 0, 0b0010100);
        Edge.of(57, "Tells how few shelves can serve an order, by trying all sets of shelves.");
        GlideShelves scrapped = shelvesOf("0*6", 0, 2, 2, 3);
        scrapped.scrap(0);
        choice(scrapped, 0, 0b111);
        // The last shelf counts once, whatever was at its old number.
        Edge.refuses(Edge.STATE, () -> {
            GlideShelves x = shelvesOf("0*8", 0, 2, 2, 3);
            x.scrap(0);
            return x;
        }, x -> x.fewestByGoing(0));
        Edge.refuses(Edge.STATE, () -> {
            GlideShelves x = shelvesOf("0*8", 0, 2, 2, 3);
            x.scrap(0);
            return x;
        }, x -> x.fewestByTrying(0));
    }

    private static void promise57To59None() {
        Edge.Maker one = () -> stocked("9*13", "0*6", "5*1", "0*5,9*13");
        int[] orders = {0, 1, 2, 3};
        Edge.of(57, "Throws `IllegalStateException` if none can");
        Edge.refusesEach(Edge.STATE, one, orders, GlideShelves::fewestByTrying);
        Edge.refuses(Edge.STATE, Edge::eightOrders, x -> x.fewestByTrying(7));
        Edge.of(58, "Throws `IllegalStateException` if none can");
        Edge.refusesEach(Edge.STATE, one, orders, GlideShelves::fewestByGoing);
        Edge.refuses(Edge.STATE, Edge::eightOrders, x -> x.fewestByGoing(7));
        Edge.of(59, "Throws `IllegalStateException` if none can serve it");
        Edge.refusesEach(Edge.STATE, one, orders, GlideShelves::choiceFor);
        Edge.refuses(Edge.STATE, Edge::eightOrders, x -> x.choiceFor(7));
        Edge.refuses(Edge.STATE, Edge::atWindow, x -> x.choiceFor(2));
        Edge.of(57, "Throws `IndexOutOfBoundsException` if there is no such order");
        refusesNoOrder(GlideShelves::fewestByTrying);
        Edge.of(58, "Throws `IndexOutOfBoundsException` if there is no such order");
        refusesNoOrder(GlideShelves::fewestByGoing);
        Edge.of(59, "Throws `IndexOutOfBoundsException` if there is no such order");
        refusesNoOrder(GlideShelves::choiceFor);
    }

    private static void ticks(GlideShelves x, int order, int due) {
        Edge.is("of " + order, x.ticksByServing(order) + " " + x.ticksBySums(order), due + " " + due);
    }

    private static void promise60And61() {
        Edge.of(60, "- `order`: the number of the order");
        // The lift is at 5; the shelf 0 at 0, 11 at 5 behind, 12 shelves from 0 to 5 on both sides.
        GlideShelves x = stocked("9*12", "0*2", "0*3", "0*5");
        ticks(x, 0, 5 + 5 + 2 * (15 + 15 + 12));
        ticks(x, 1, 5);
        Edge.of(61, "- `order`: the number of the order");
        ticks(x, 2, 2 * 7);
        ticks(x, 3, 5 + 5 + 2 * 7);
        Edge.of(61, "Returns the ticks of the lift from where it is to the first shelf of the choice, and from each one to the next one, and twice the way of each from its place to the window.");
        GlideShelves y = Check.tower(1, 1);
        Check.restock(y, 0, 0, 1);
        Check.restock(y, 1, 0, 1);
        Check.order(y, "0*2");
        ticks(y, 0, 2 * 2);
        Edge.move(y, 0, 1, 19);
        ticks(y, 0, 0 + 2 * 21 + 19 + 2 * 2);
        Edge.move(y, 1, 0, 19);
        ticks(y, 0, 0 + 2 * 21 + 0 + 2 * 19);
        Edge.move(y, 0, 0, 0);
        ticks(y, 0, 0 + 19 + 2 * 19);
        y.fetch(1);
        y.stow();
        ticks(y, 0, 19 + 19 + 2 * 19);
    }

    private static void promise60And61Refused() {
        Edge.of(60, "Throws `IndexOutOfBoundsException` if there is no such order");
        refusesNoOrder(GlideShelves::ticksByServing);
        Edge.of(61, "Throws `IndexOutOfBoundsException` if there is no such order");
        refusesNoOrder(GlideShelves::ticksBySums);
        Edge.refusesEach(Edge.INDEX, EdgeOrderTellsTest::turned, Edge.outside(0, 2), GlideShelves::ticksBySums);
        Edge.of(60, "Throws `IllegalStateException` if a shelf is at the window, or no choice can serve it");
        Edge.refusesEach(Edge.STATE, Edge::atWindow, new int[] {0, 1, 2}, GlideShelves::ticksByServing);
        Edge.refuses(Edge.STATE, Edge::rich, x -> x.ticksByServing(2));
        Edge.refuses(Edge.STATE, () -> stocked("9*13"), x -> x.ticksByServing(0));
        Edge.refuses(Edge.STATE, Edge::eightOrders, x -> x.ticksByServing(0));
        Edge.is("by the other rule", turned().ticksByServing(0), 3 + 2 * 0 + 3 + 1 * 3 + 2);
        Edge.of(61, "Throws `IllegalStateException` if a shelf is at the window, no choice can serve it, or shelves are stowed at the first place that fits");
        Edge.refusesEach(Edge.STATE, Edge::atWindow, new int[] {0, 1, 2}, GlideShelves::ticksBySums);
        Edge.refuses(Edge.STATE, Edge::rich, x -> x.ticksBySums(2));
        Edge.refuses(Edge.STATE, () -> stocked("9*13"), x -> x.ticksBySums(0));
        Edge.refuses(Edge.STATE, Edge::eightOrders, x -> x.ticksBySums(0));
        Edge.refusesEach(Edge.STATE, EdgeOrderTellsTest::turned, new int[] {0, 1, 2}, GlideShelves::ticksBySums);
        GlideShelves back = turned();
        back.turnRule();
        Edge.is("turned back", back.ticksBySums(0), 3 + 2 * 0 + 3 + 2 * 3);
    }

    /**
     * As rich(), by the other rule, and without the shelf 2: the lift is at 3, and the shelves 0 and 2 of the first
     * choice at 0 and 3 in front, where the slot 2 is free now.
     */
    private static GlideShelves turned() {
        GlideShelves x = Edge.rich();
        x.scrap(2);
        x.turnRule();
        return x;
    }

    private static void promise62() {
        Edge.of(62, "Throws `IllegalStateException` if a shelf is at the window, or none can be served");
        Edge.refuses(Edge.STATE, GlideShelves::new, GlideShelves::cheapestOrder);
        Edge.refuses(Edge.STATE, Edge::twelve, GlideShelves::cheapestOrder);
        Edge.refuses(Edge.STATE, Edge::eightOrders, GlideShelves::cheapestOrder);
        Edge.refuses(Edge.STATE, Edge::atWindow, GlideShelves::cheapestOrder);
        Edge.refuses(Edge.STATE, () -> stocked("9*13", "0*6"), GlideShelves::cheapestOrder);
        Edge.of(62, "Returns the number of the order, of several the lowest.");
        Edge.is("the only one", stocked("0*1").cheapestOrder(), 0);
        Edge.is("the only one that can be served", stocked("9*13", "0*6", "9*12", "4*1").cheapestOrder(), 2);
        Edge.is("like ones", stocked("0*1", "9*1", "0*2").cheapestOrder(), 0);
        // 3 of the kind 0 are at 5 behind: 14 ticks; 2 of it at 0 in front: 5, as the lift is at 5.
        Edge.is("the last one by 9 ticks", stocked("0*3", "0*3", "0*2").cheapestOrder(), 2);
        Edge.is("of the first one and a like one behind", stocked("0*3", "0*2", "0*3", "0*2").cheapestOrder(), 1);
        GlideShelves eight = stocked("9*12", "9*11", "9*10", "9*9", "9*8", "9*7", "9*6", "9*5");
        Edge.is("the last of 8", eight.cheapestOrder(), 7);
        GlideShelves free = Check.tower(1);
        Check.restock(free, 0, 0, 9);
        Check.order(free, "0*9");
        Check.order(free, "0*1");
        Edge.is("0 ticks each", free.ticksByServing(0) + " " + free.cheapestOrder(), "0 0");
        GlideShelves tied = Check.tower(1, 1);
        Check.restock(tied, 0, 0, 9);
        Check.restock(tied, 1, 1, 9);
        Edge.move(tied, 0, 0, 4);
        Edge.move(tied, 1, 1, 2);
        Check.order(tied, "0*1");
        Check.order(tied, "1*1");
        // The lift is at 2: 2 and twice 4; 0 and twice 4.
        Edge.is("two ticks less", tied.cheapestOrder(), 1);
        Edge.move(tied, 0, 0, 4);
        // The lift is at 4: 0 and twice 4; 2 and twice 4.
        Edge.is("two ticks more", tied.cheapestOrder(), 0);
    }

    private static void promise63() {
        Edge.of(63, "Throws `IllegalStateException` if a shelf is at the window");
        Edge.refuses(Edge.STATE, Edge::atWindow, GlideShelves::servable);
        Edge.refuses(Edge.STATE, () -> {
            GlideShelves x = Check.tower(1);
            x.fetch(0);
            return x;
        }, GlideShelves::servable);
        Edge.of(63, "Tells how many orders would be served by serveAll().");
        Edge.is("no orders", new GlideShelves().servable() + " " + Edge.twelve().servable(), "0 0");
        Edge.is("none of 8", Edge.eightOrders().servable(), 0);
        Edge.is("all of 8", stocked("9*1", "9*1", "9*1", "9*1", "9*1", "9*1", "9*1", "9*5").servable(), 8);
        Edge.is("7 of 8", stocked("9*1", "9*1", "9*1", "9*1", "9*1", "9*1", "9*1", "9*6").servable(), 7);
        Edge.is("the last alone", stocked("9*13", "0*6", "0*1").servable(), 1);
        GlideShelves x = stocked("0*3", "0*3", "0*2", "0*1");
        Edge.is("each can be, not all", x.canServe(0) && x.canServe(1) && x.canServe(2) && x.canServe(3), true);
        Edge.is("3 and 2 of 5", x.servable(), 2);
        x.serve(3);
        Edge.is("3 of 4", x.servable() + " " + x.served(), "1 1");
        x.serveAll();
        Edge.is("none any more", x.servable() + " " + x.served(), "0 2");
    }

    public static void main(String[] args) {
        promise53();
        promise54();
        promise55();
        promise56();
        promise57To59();
        promise57To59EachOnce();
        promise57To59None();
        promise60And61();
        promise60And61Refused();
        promise62();
        promise63();
        Edge.end("EdgeOrderTellsTest");
    }
}
