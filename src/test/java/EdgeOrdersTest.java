/** Edges of the calls for orders and settings: promises 10 to 16. */
public final class EdgeOrdersTest {
    private EdgeOrdersTest() {
    }

    private static void promise10Texts() {
        Edge.of(10, "Throws `IllegalArgumentException` if the buffer does not tell an order as a text");
        String[] wrongs = {"", "0", "0*", "0*0", "0*21", "0*100", "0*01", "0*1,", "0*1,1", "0*1,1*", "0*1,1*0",
            "0*1,0*1", "1*1,0*1", "9*1,", "9*20,", "9*1,9*1", "*1", ",0*1", "0**1", "0*1,,1*1", "0*1;1*1", "0-1",
            "a*1", "0*a", "0*-1", "0*1a", "00*1", "10*1", Edge.ALL_KINDS + ",", "!", "~", ":*1", "/*1", "0*:", "0*/"};
        for (String text : wrongs) {
            Edge.refuses(Edge.ARGUMENT, () -> Edge.typed(text), GlideShelves::accept);
        }
        // Named before the other one: there are 8 orders, too.
        for (String text : new String[] {"", "7", "7*", "9*1,"}) {
            Edge.refuses(Edge.ARGUMENT, () -> typedWithEight(text), GlideShelves::accept);
        }
        Edge.refuses(Edge.ARGUMENT, Edge::rich, GlideShelves::accept);
        Edge.refuses(Edge.ARGUMENT, Edge::atWindow, GlideShelves::accept);
        for (int kind = 0; kind < 10; kind++) {
            for (int many : new int[] {1, 9, 10, 19, 20}) {
                GlideShelves x = Edge.typed(kind + "*" + many);
                Edge.is("the number", x.accept(), 0);
                Edge.is("wanted", x.wanted(0, kind) + " " + x.thingsOf(0), many + " " + many);
            }
        }
        GlideShelves all = Edge.typed(Edge.ALL_KINDS);
        Edge.is("all kinds", all.accept() + " " + all.thingsOf(0), "0 200");
        Edge.refuses(Edge.ARGUMENT, () -> {
            GlideShelves x = Edge.typed("0*1");
            x.accept();
            return x;
        }, GlideShelves::accept);
    }

    private static GlideShelves typedWithEight(String text) {
        GlideShelves x = Edge.eightOrders();
        Check.type(x, text);
        return x;
    }

    private static void promise10NoRoom() {
        Edge.of(10, "Throws `IllegalStateException` if there are 8 orders");
        GlideShelves x = Edge.eightOrders();
        x.cancel(7);
        Edge.is("the 8th", Check.order(x, "9*9") + " " + x.orders(), "7 8");
        Edge.refuses(Edge.STATE, () -> typedWithEight("9*9"), GlideShelves::accept);
        Edge.refuses(Edge.STATE, () -> typedWithEight(Edge.ALL_KINDS), GlideShelves::accept);
        GlideShelves y = typedWithEight("9*9");
        y.cancel(0);
        Edge.is("after cancelling, with the text that stayed", y.accept() + " " + y.wanted(7, 9), "7 9");
        GlideShelves z = typedWithEight("9*9");
        z.addShelf(1);
        Check.restock(z, 0, 3, 4);
        z.serve(3);
        Edge.is("after serving", z.accept() + " " + z.wanted(7, 9), "7 9");
    }

    private static void promise10Buffer() {
        Edge.of(10, "Takes the order of the buffer on, and clears the buffer. Undoable.");
        GlideShelves x = Edge.typed("3*20");
        x.accept();
        Edge.is("cleared", x.clearBuffer(), 0);
        Check.type(x, "4*1");
        x.accept();
        Edge.is("nothing is left of the one before", x.wanted(1, 3) + " " + x.wanted(1, 4), "0 1");
        Check.type(x, "5");
        x.undo();
        Edge.is("undone, but for the buffer", x.orders() + " " + x.clearBuffer(), "1 1");
    }

    private static void promise11() {
        Edge.of(11, "- `order`: the number of the order");
        Edge.is("the first of 8", Edge.eightOrders().cancel(0), 1);
        Edge.is("the last of 8", Edge.eightOrders().cancel(7), 8);
        GlideShelves all = Edge.typed(Edge.ALL_KINDS);
        all.accept();
        Edge.is("the most things", all.cancel(0) + " " + all.orders(), "200 0");
        Edge.of(11, "Throws `IndexOutOfBoundsException` if there is no such order");
        Edge.refuses(Edge.INDEX, GlideShelves::new, x -> x.cancel(0));
        Edge.refusesEach(Edge.INDEX, Edge::rich, Edge.outside(0, 2), GlideShelves::cancel);
        Edge.refusesEach(Edge.INDEX, Edge::atWindow, Edge.outside(0, 2), GlideShelves::cancel);
        Edge.refusesEach(Edge.INDEX, Edge::eightOrders, Edge.outside(0, 7), GlideShelves::cancel);
        Edge.refuses(Edge.INDEX, () -> {
            GlideShelves x = Edge.eightOrders();
            x.cancel(0);
            return x;
        }, x -> x.cancel(7));
        Edge.of(11, "Cancels an order; those taken on later have numbers that are 1 less. Undoable.");
        GlideShelves x = Edge.eightOrders();
        x.cancel(3);
        for (int order = 0; order < 7; order++) {
            int kind = order < 3 ? order : order + 1;
            Edge.is("order " + order, x.wanted(order, kind) + " " + x.thingsOf(order), (kind + 1) + " " + (kind + 1));
        }
        Edge.is("also with a shelf at the window", Edge.atWindow().cancel(1), 3);
    }

    /** One shelf at 0 in front with 5 things of the kind 0, one at 0 behind with 4 of it. */
    private static GlideShelves nine(String text) {
        GlideShelves x = Check.tower(1, 1);
        Check.restock(x, 0, 0, 5);
        Check.restock(x, 1, 0, 4);
        Check.order(x, text);
        return x;
    }

    private static void promise12() {
        Edge.of(12, "- `order`: the number of the order");
        GlideShelves eight = Edge.eightOrders();
        eight.addShelf(1);
        Check.restock(eight, 0, 7, 8);
        Check.restock(eight, 0, 0, 1);
        Edge.is("the last of 8", eight.serve(7) + " " + eight.orders(), "0 7");
        Edge.is("the first", eight.serve(0) + " " + eight.orders() + " " + eight.wanted(0, 1), "0 6 2");
        Edge.of(12, "Throws `IndexOutOfBoundsException` if there is no such order");
        Edge.refuses(Edge.INDEX, GlideShelves::new, x -> x.serve(0));
        Edge.refusesEach(Edge.INDEX, Edge::rich, Edge.outside(0, 2), GlideShelves::serve);
        Edge.refusesEach(Edge.INDEX, Edge::eightOrders, Edge.outside(0, 7), GlideShelves::serve);
        // Named before the other one.
        Edge.refusesEach(Edge.INDEX, Edge::atWindow, Edge.outside(0, 2), GlideShelves::serve);
        Edge.refuses(Edge.INDEX, () -> {
            GlideShelves x = nine("0*1");
            x.serve(0);
            return x;
        }, x -> x.serve(0));
    }

    private static void promise12Refused() {
        Edge.of(12, "Throws `IllegalStateException` if a shelf is at the window, or no choice can serve it");
        Edge.refusesEach(Edge.STATE, Edge::atWindow, new int[] {0, 1, 2}, GlideShelves::serve);
        Edge.refuses(Edge.STATE, Edge::rich, x -> x.serve(2));
        Edge.refuses(Edge.STATE, Edge::eightOrders, x -> x.serve(0));
        Edge.is("all that there are", nine("0*9").serve(0), 4);
        Edge.refuses(Edge.STATE, () -> nine("0*10"), x -> x.serve(0));
        Edge.refuses(Edge.STATE, () -> nine("0*9,1*1"), x -> x.serve(0));
        Edge.refuses(Edge.STATE, () -> nine("9*1"), x -> x.serve(0));
        GlideShelves x = nine("0*10");
        Check.restock(x, 1, 0, 1);
        Edge.is("after filling in the one that lacked", x.serve(0), 4);
        GlideShelves y = nine("0*6");
        y.fetch(0);
        y.stow();
        Edge.is("after stowing", y.serve(0), 4);
    }

    private static void promise12Gone() {
        Edge.of(12, "The order is gone then; those taken on later have numbers that are 1 less.");
        GlideShelves x = nine("0*2");
        Check.order(x, "1*1");
        Check.order(x, "0*7");
        Edge.is("by the first shelf", x.serve(0), 0);
        Edge.is("the later ones", x.orders() + " " + x.wanted(0, 1) + " " + x.wanted(1, 0), "2 1 7");
        Edge.is("by both", x.serve(1) + " " + x.orders(), "4 1");
        Edge.is("nothing is left", x.stockByShelves(0) + " " + x.stockByAccount(0) + " " + x.served(), "0 0 2");
        GlideShelves twelve = Edge.twelve();
        for (int shelf = 0; shelf < 12; shelf++) {
            Check.restock(twelve, shelf, 9, 1);
        }
        Check.order(twelve, "9*12");
        // From 5 to 0, then step by step to 5, and twice each way: 0 to 5 in front, and 2 more behind.
        Edge.is("by all 12 shelves", twelve.serve(0), 5 + 5 + 2 * (15 + 15 + 12));
        Edge.is("one thing of each", twelve.shelvesWith(9) + " " + twelve.fetches(), "0 24");
    }

    private static void promise13() {
        Edge.of(13, "Throws `IllegalStateException` if a shelf is at the window");
        Edge.refuses(Edge.STATE, Edge::atWindow, GlideShelves::serveAll);
        Edge.refuses(Edge.STATE, () -> {
            GlideShelves x = Check.tower(1);
            x.fetch(0);
            return x;
        }, GlideShelves::serveAll);
        Edge.of(13, "Serves orders, as long as some can be served: each time the one with the lowest number that can be.");
        GlideShelves none = new GlideShelves();
        Edge.is("no orders", none.serveAll() + " " + none.savedStates(), "0 1");
        GlideShelves lacking = Edge.eightOrders();
        Edge.is("none can be served", lacking.serveAll() + " " + lacking.orders() + " " + lacking.served(), "0 8 0");
        GlideShelves eight = Edge.eightOrders();
        eight.addShelf(2);
        eight.fetch(0);
        for (int kind = 0; kind < 8; kind++) {
            eight.fill(kind, kind + 1);
        }
        eight.stowAt(0, 3);
        Edge.is("all 8", eight.serveAll() + " " + eight.orders() + " " + eight.served(), 8 * 6 + " 0 8");
        Edge.is("nothing is left", eight.weightOf(0) + " " + eight.fetchesOf(0), "0 9");
        GlideShelves x = nine("0*5");
        Check.order(x, "0*6");
        Check.order(x, "0*5");
        Check.order(x, "0*4");
        x.serveAll();
        Edge.is("5 and 4, not 6", x.orders() + " " + x.wanted(0, 0) + " " + x.wanted(1, 0), "2 6 5");
        GlideShelves seven = Edge.eightOrders();
        seven.addShelf(1);
        Check.restock(seven, 0, 7, 8);
        Edge.is("the last of 8 alone", seven.serveAll() + " " + seven.orders() + " " + seven.served(), "0 7 1");
    }

    private static void promise13AsOneCall() {
        Edge.of(13, "Undoable, as one call.");
        GlideShelves x = nine("0*5");
        Check.order(x, "0*3");
        Check.order(x, "0*1");
        Edge.is("saved before", x.savedStates(), 6);
        x.serveAll();
        Edge.is("three served", x.served() + " " + x.orders(), "3 0");
        Edge.is("saved then", x.savedStates(), 6);
        x.undo();
        Edge.is("one state is dropped", x.savedStates(), 5);
        Edge.is("three undone", x.served() + " " + x.orders() + " " + x.stockByAccount(0), "0 3 9");
    }

    private static void promise14() {
        Edge.of(14, "- `kind`: 0 to 9");
        Edge.is("the first", Edge.rich().changeLeast(0, 1), 0);
        Edge.is("the last", Edge.rich().changeLeast(9, 1), 0);
        Edge.of(14, "- `many`: 0 to 99");
        GlideShelves x = Edge.rich();
        Edge.is("the fewest", x.changeLeast(2, 0) + " " + x.leastOf(2), "9 0");
        Edge.is("the most", x.changeLeast(2, 99) + " " + x.leastOf(2), "0 99");
        Edge.is("the most as before", x.changeLeast(2, 1), 99);
        Edge.of(14, "Throws `IndexOutOfBoundsException` if there is no such kind");
        int[] kinds = Edge.outside(0, 9);
        Edge.refusesEach(Edge.INDEX, Edge::rich, kinds, (y, kind) -> y.changeLeast(kind, 5));
        Edge.refusesEach(Edge.INDEX, Edge::atWindow, kinds, (y, kind) -> y.changeLeast(kind, 0));
        // Named before the other one.
        Edge.refusesEach(Edge.INDEX, Edge::rich, kinds, (y, kind) -> y.changeLeast(kind, 100));
        Edge.refusesEach(Edge.INDEX, Edge::rich, kinds, (y, kind) -> y.changeLeast(kind, -1));
        Edge.of(14, "Throws `IllegalArgumentException` if many is out of range");
        Edge.refusesEach(Edge.ARGUMENT, Edge::rich, Edge.outside(0, 99), (y, many) -> y.changeLeast(2, many));
        Edge.refusesEach(Edge.ARGUMENT, GlideShelves::new, Edge.outside(0, 99), (y, many) -> y.changeLeast(9, many));
    }

    /** 20 things of the kind 0 in the last of 12 shelves, and so many of the kind 1. */
    private static GlideShelves loaded(int others) {
        GlideShelves x = Edge.twelve();
        Check.restock(x, 11, 0, 20);
        Check.restock(x, 11, 1, others);
        return x;
    }

    private static void promise15() {
        Edge.of(15, "- `kind`: 0 to 9");
        Edge.is("the first", Edge.rich().changeWeight(0, 2), 1);
        Edge.is("the last", Edge.rich().changeWeight(9, 2), 1);
        Edge.of(15, "- `weight`: 1 to 9");
        GlideShelves x = Edge.rich();
        Edge.is("the lightest", x.changeWeight(1, 1) + " " + x.weightOfKind(1), "3 1");
        Edge.is("the heaviest", x.changeWeight(1, 9) + " " + x.weightOfKind(1), "1 9");
        Edge.of(15, "Throws `IndexOutOfBoundsException` if there is no such kind");
        int[] kinds = Edge.outside(0, 9);
        Edge.refusesEach(Edge.INDEX, Edge::rich, kinds, (y, kind) -> y.changeWeight(kind, 5));
        // Named before both others.
        Edge.refusesEach(Edge.INDEX, Edge::rich, kinds, (y, kind) -> y.changeWeight(kind, 0));
        Edge.refusesEach(Edge.INDEX, Edge::atWindow, kinds, (y, kind) -> y.changeWeight(kind, 10));
        Edge.of(15, "Throws `IllegalArgumentException` if weight is out of range");
        int[] weights = Edge.outside(1, 9);
        Edge.refusesEach(Edge.ARGUMENT, Edge::rich, weights, (y, weight) -> y.changeWeight(1, weight));
        Edge.refusesEach(Edge.ARGUMENT, GlideShelves::new, weights, (y, weight) -> y.changeWeight(9, weight));
        // Named before the other one: 8 would be too heavy already.
        Edge.refusesEach(Edge.ARGUMENT, () -> loaded(1), weights, (y, weight) -> y.changeWeight(0, weight));
    }

    private static void promise15TooHeavy() {
        Edge.of(15, "Throws `IllegalStateException` if some shelf would be too heavy then");
        Edge.is("140 and 10", loaded(10).changeWeight(0, 7), 1);
        Edge.refuses(Edge.STATE, () -> loaded(11), x -> x.changeWeight(0, 7));
        Edge.refuses(Edge.STATE, () -> loaded(10), x -> x.changeWeight(0, 8));
        Edge.refuses(Edge.STATE, () -> loaded(10), x -> x.changeWeight(0, 9));
        Edge.is("20 and 120", loaded(20).changeWeight(1, 6), 1);
        Edge.refuses(Edge.STATE, () -> loaded(20), x -> x.changeWeight(1, 7));
        Edge.is("of a kind that there is not", loaded(20).changeWeight(2, 9), 1);
        GlideShelves x = loaded(10);
        x.changeWeight(0, 7);
        Edge.is("the same once more, at 150", x.changeWeight(0, 7) + " " + x.weightOf(11), "7 150");
        Edge.is("lighter, at 150", x.changeWeight(0, 1) + " " + x.weightOf(11), "7 30");
        Edge.refuses(Edge.STATE, () -> {
            GlideShelves y = loaded(10);
            y.fetch(11);
            return y;
        }, y -> y.changeWeight(0, 8));
        Edge.refuses(Edge.STATE, () -> {
            GlideShelves y = loaded(10);
            Check.restock(y, 0, 2, 17);
            return y;
        }, y -> y.changeWeight(2, 9));
        GlideShelves two = loaded(10);
        Check.restock(two, 0, 0, 20);
        Edge.is("each shelf for itself", two.changeWeight(0, 7) + " " + two.weightOf(0), "1 140");
    }

    private static void promise16() {
        Edge.of(16, "Returns true if they are stowed where they were then.");
        GlideShelves x = new GlideShelves();
        Edge.is("the first time", x.turnRule() + " " + x.isKeptPlace(), "false false");
        Edge.is("the second time", x.turnRule() + " " + x.isKeptPlace(), "true true");
        GlideShelves y = Edge.atWindow();
        Edge.is("with a shelf at the window", y.turnRule(), false);
        Edge.is("it is stowed by the rule of now", y.stow() + " " + Edge.place(y, 1), "2 20");
        y.undo();
        y.undo();
        Edge.is("undone", y.isKeptPlace() + " " + y.atWindow(), "true 1");
    }

    public static void main(String[] args) {
        promise10Texts();
        promise10NoRoom();
        promise10Buffer();
        promise11();
        promise12();
        promise12Refused();
        promise12Gone();
        promise13();
        promise13AsOneCall();
        promise14();
        promise15();
        promise15TooHeavy();
        promise16();
        Edge.end("EdgeOrdersTest");
    }
}
