/** What the calls for orders, settings, texts and undo say, where no test of edges asks it: promises 10 to 19, and terms. */
public final class SaysOrdersTest {
    private SaysOrdersTest() {
    }

    private static void accept() {
        Edge.of(10, "Returns the number of the order.");
        GlideShelves x = new GlideShelves();
        for (int order = 0; order < 8; order++) {
            Edge.is("the next one", Check.order(x, (9 - order) + "*" + (20 - order)), order);
            Edge.is("this is its number", x.wanted(order, 9 - order) + " " + x.orders(), (20 - order) + " " + (order + 1));
        }
        x.cancel(2);
        x.cancel(4);
        Edge.is("after cancelling two", Check.order(x, "0*5") + " " + x.wanted(6, 0), "6 5");
        Edge.of(10, "Undoable.");
        Edge.undoable(GlideShelves::new, y -> Check.order(y, "0*5"));
        Edge.undoable(Edge::served, y -> {
            y.append('9');
            y.accept();
            Check.type(y, "7*");
        });
    }

    private static void cancel() {
        Edge.of(11, "Returns how many things were wanted in it.");
        GlideShelves x = new GlideShelves();
        Check.order(x, "0*3,5*20,9*1");
        Check.order(x, "4*1");
        Check.order(x, "2*19,3*20");
        Edge.is("of three kinds", x.cancel(0), 24);
        Edge.is("of two kinds", x.cancel(1), 39);
        Edge.is("one thing", x.cancel(0) + " " + x.orders(), "1 0");
        Edge.of(11, "Undoable.");
        Edge.undoable(Edge::rich, y -> y.cancel(0));
        Edge.undoable(Edge::atWindow, y -> y.cancel(2));
    }

    private static void serve() {
        Edge.of(12, "Serves an order by its choice of shelves: each of them is fetched, gives what is wanted yet and it has, and"
                + " is stowed.");
        GlideShelves x = Edge.served();
        Edge.is("each is fetched once more", x.fetches(), 5);
        Edge.each(x, GlideShelves::fetchesOf, 2, 1, 0, 2);
        Edge.is("7 and 2 are given", x.thingsIn(0, 0) + " " + x.thingsIn(3, 0) + " " + x.stockByAccount(0), "0 2 2");
        Edge.is("nothing else is", x.thingsIn(1, 1) + " " + x.thingsIn(3, 2), "5 1");
        Edge.each(x, Edge::place, 0, 20, 2, 3);
        Edge.is("each is stowed", x.lift() + " " + x.freeBySlots(), "3 30");
        // The lift went from 3 to 0, and with the second shelf from 0 to 3 and twice its way of 3.
        Edge.each(x, GlideShelves::tripTicks, 3, 6, 0, 3, 3, 6, 2, 2);
        Edge.each(x, GlideShelves::wasFetch, false, true, false, true, false, true, false, true);
        Edge.is("it is served", x.served() + " " + x.orders() + " " + x.wanted(0, 1), "1 2 2");
        Edge.of(12, "Returns the ticks of that.");
        Edge.is("3 and 0 and 6 and 3", Edge.rich().serve(0) + " " + x.ticks(), "12 25");
        Edge.is("5 and 2 and 6 and 3", Edge.rich().serve(1), 16);
        GlideShelves low = Edge.rich();
        low.scrap(2);
        low.turnRule();
        // The second shelf is stowed at the first place that fits then, at 2.
        Edge.is("3 and 0 and 6 and 2", low.serve(0) + " " + Edge.place(low, 2) + " " + low.lift(), "11 2 2");
        Edge.of(12, "Undoable.");
        Edge.undoable(Edge::rich, y -> y.serve(0));
        Edge.undoable(Edge::rich, y -> y.serve(1));
    }

    private static void serveAll() {
        Edge.of(13, "Returns the ticks of that.");
        GlideShelves x = Edge.rich();
        Edge.is("12 for the first one, 16 for the second one", x.serveAll(), 28);
        Edge.is("all ticks", x.ticks() + " " + x.served() + " " + x.orders() + " " + x.wanted(0, 5), "41 2 1 1");
        Edge.is("none is left that can be", x.serveAll() + " " + x.ticks(), "0 41");
        GlideShelves eight = Edge.eightOrders();
        eight.addShelf(4);
        Edge.move(eight, 0, 1, 16);
        for (int kind = 0; kind < 3; kind++) {
            Check.restock(eight, 0, kind, kind + 1);
        }
        int before = eight.ticks();
        // The lift stays at the slot of the only shelf, whose way is 18.
        Edge.is("three times there and back", eight.serveAll() + " " + eight.ticks(), 3 * 36 + " " + (before + 3 * 36));
        Edge.of(13, "Undoable, as one call.");
        Edge.undoable(Edge::rich, GlideShelves::serveAll);
        Edge.undoable(Edge::eightOrders, GlideShelves::serveAll);
    }

    private static void changeLeast() {
        for (int kind = 0; kind < 10; kind++) {
            GlideShelves x = Edge.rich();
            int before = kind == 2 ? 9 : 0;
            Edge.of(14, "Returns how many there should have been before.");
            Edge.is("of " + kind, x.changeLeast(kind, 30 + kind), before);
            Edge.is("of " + kind + ", then", x.changeLeast(kind, 40 + kind), 30 + kind);
            Edge.of(14, "Changes how many things of a kind there should be at the least.");
            for (int other = 0; other < 10; other++) {
                Edge.is("of " + other, x.leastOf(other), other == kind ? 40 + kind : other == 2 ? 9 : 0);
            }
            Edge.is("those that are missing", x.missingOf(kind), 40 + kind - x.stockByShelves(kind));
        }
        Edge.of(14, "Undoable.");
        Edge.undoable(Edge::rich, x -> x.changeLeast(2, 10));
        Edge.undoable(Edge::rich, x -> x.changeLeast(2, 9));
    }

    private static void changeWeight() {
        for (int kind = 0; kind < 10; kind++) {
            GlideShelves x = Edge.rich();
            Edge.of(15, "Returns the weight before.");
            Edge.is("of " + kind, x.changeWeight(kind, 4), kind == 1 ? 3 : 1);
            Edge.is("of " + kind + ", then", x.changeWeight(kind, 7), 4);
            Edge.of(15, "Changes how heavy a thing of a kind is.");
            for (int other = 0; other < 10; other++) {
                Edge.is("of " + other, x.weightOfKind(other), other == kind ? 7 : other == 1 ? 3 : 1);
            }
            Edge.each(x, GlideShelves::weightOf, kind == 0 ? 49 : 7, kind == 1 ? 35 : 15, 0,
                    kind == 0 ? 29 : kind == 2 ? 11 : 5);
        }
        Edge.of(15, "Undoable.");
        Edge.undoable(Edge::rich, x -> x.changeWeight(0, 9));
        Edge.undoable(Edge::rich, x -> x.changeWeight(1, 3));
    }

    private static void turnRule() {
        Edge.of(16, "Lets shelves be stowed where they were, or at the first place that fits, if they are stowed where they"
                + " were.");
        GlideShelves x = Check.tower(2, 2);
        for (int times = 1; times <= 4; times++) {
            Edge.move(x, 1, 1, 11);
            Edge.is(times + " times", x.turnRule(), times % 2 == 0);
            x.fetch(1);
            x.stow();
            Edge.is(times + " times, stowed", Edge.place(x, 1), times % 2 == 0 ? 31 : 20);
        }
        Edge.of(16, "Undoable.");
        Edge.undoable(Edge::rich, GlideShelves::turnRule);
        Edge.undoable(Edge::atWindow, GlideShelves::turnRule);
    }

    private static void texts() {
        Edge.of(17, "Appends a character to the buffer.");
        GlideShelves x = new GlideShelves();
        int[] codes = {'0', '*', '1', ',', '9', '*', '2', '0', '!', '~'};
        long digest = x.digest();
        for (int i = 0; i < codes.length; i++) {
            Edge.is("its length", x.append(codes[i]), i + 1);
        }
        // The hash tells the length, then each character: of the hash before the length there is 31 times in the first one.
        long due = digest + codes.length;
        for (int code : codes) {
            due = 31L * due + code;
        }
        Edge.is("behind those before it", x.digest(), due);
        Edge.is("and tells an order", order("0*1,9*20"), "1 0 0 0 0 0 0 0 0 20");
        Edge.of(18, "Clears the buffer.");
        x.clearBuffer();
        Edge.is("like a new one", x.digest(), digest);
        Edge.is("the next one is the first", x.append('4') + " " + x.firstError(), "1 1");
        Edge.is("nothing else is cleared", cleared(Edge.rich()), "2 0 4 3 6");
        Edge.of(19, "Finds the first syntax error of the buffer.");
        String[] texts = {"", "x", "0x", "0*x", "0*1x", "0*1,x", "0*1,1x", "0*1,1*x", "0*1,1*1x", "0*x,x*x", "12", "1*25"};
        int[] dues = {0, 0, 1, 2, 3, 4, 5, 6, 7, 2, 1, 3};
        for (int i = 0; i < texts.length; i++) {
            Edge.is(texts[i], Edge.typed(texts[i]).firstError(), dues[i]);
        }
    }

    private static String order(String text) {
        GlideShelves x = Edge.typed(text);
        x.accept();
        StringBuilder wants = new StringBuilder();
        for (int kind = 0; kind < 10; kind++) {
            wants.append(kind == 0 ? "" : " ").append(x.wanted(0, kind));
        }
        return wants.toString();
    }

    private static String cleared(GlideShelves x) {
        return x.clearBuffer() + " " + x.firstError() + " " + x.shelves() + " " + x.orders() + " " + x.savedStates();
    }

    private static void anOrderAsAText() {
        Edge.of(0, "An order as a text is one or more parts with \",\" between them: the digit of a kind, 0 to 9, \"*\", and 1 to 20"
                + " without leading zeros (so many things of it are wanted); the kinds rise from part to part.");
        Edge.is("one part", order("7*13"), "0 0 0 0 0 0 0 13 0 0");
        Edge.is("two parts", order("0*20,9*1"), "20 0 0 0 0 0 0 0 0 1");
        Edge.is("ten parts", order("0*1,1*2,2*3,3*4,4*5,5*6,6*7,7*8,8*9,9*10"), "1 2 3 4 5 6 7 8 9 10");
        Edge.is("the most of each", order(Edge.ALL_KINDS), "20 20 20 20 20 20 20 20 20 20");
        for (int many = 1; many <= 20; many++) {
            Edge.is("so many things", order("3*" + many), "0 0 0 " + many + " 0 0 0 0 0 0");
        }
        String[] wrongs = {"", "7", "7*", "7*0", "7*07", "7*21", "7*1,", ",7*1", "7*1,7*1", "7*1,6*1", "7*1;8*1", "*7"};
        for (String wrong : wrongs) {
            Edge.refuses(Edge.ARGUMENT, () -> Edge.typed(wrong), GlideShelves::accept);
        }
    }

    private static void whatUndoLeaves() {
        Edge.of(0, "Each method that is marked \"undoable\" and does not throw an exception saves the state from before it, also if"
                + " it changes nothing: all but the buffer, the slots for snapshots and the saved states.");
        GlideShelves x = Check.tower(1);
        x.keep(0);
        Check.type(x, "0*");
        x.pack();
        x.append('5');
        x.addShelf(2);
        x.keep(1);
        x.undo();
        x.undo();
        Edge.is("the tower is as it was", x.shelves() + " " + x.savedStates(), "1 1");
        Edge.is("the buffer is not", x.firstError() + " " + x.clearBuffer(), "3 3");
        x.goBack(1);
        Edge.is("the slots are not", x.shelves(), 2);
        x.undo();
        x.goBack(0);
        Edge.is("none of them", x.shelves() + " " + x.savedStates(), "1 2");
        Edge.undoable(Edge::rich, y -> y.goBack(1));
        Edge.undoable(Edge::rich, y -> y.goBack(0));
    }

    public static void main(String[] args) {
        accept();
        cancel();
        serve();
        serveAll();
        changeLeast();
        changeWeight();
        turnRule();
        texts();
        anOrderAsAText();
        whatUndoLeaves();
        Edge.end("SaysOrdersTest");
    }
}
