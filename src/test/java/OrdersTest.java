/** Orders, their choices and their serving: promises 11 to 13, 53 to 63 and 66. */
public final class OrdersTest {
    private static final Class<?> INDEX = IndexOutOfBoundsException.class;
    private static final Class<?> STATE = IllegalStateException.class;
    private static final int[] NO_ORDERS = {-1, 3, Integer.MIN_VALUE, Integer.MAX_VALUE};

    private OrdersTest() {
    }

    /**
     * Places: shelf 0 at 0 in front (2 of the kind 0), 1 at 0 behind (3 of the kind 1), 2 at 2 in front
     * (1 of the kind 0, 2 of the kind 1), 3 at 3 in front (4 of the kind 0, 1 of the kind 2), 4 at 4 behind
     * (5 of the kind 1). The lift is at 4.
     */
    private static GlideShelves stocked() {
        GlideShelves x = Check.tower(2, 4, 1, 3, 2);
        Check.restock(x, 0, 0, 2);
        Check.restock(x, 1, 1, 3);
        Check.restock(x, 2, 0, 1);
        x.fetch(2);
        x.fill(1, 2);
        x.stow();
        Check.restock(x, 3, 0, 4);
        x.fetch(3);
        x.fill(2, 1);
        x.stow();
        Check.restock(x, 4, 1, 5);
        return x;
    }

    private static void promise11And53To55Orders() {
        GlideShelves x = new GlideShelves();
        Check.is("53: none", x.orders(), 0);
        Check.order(x, "0*5,9*20");
        Check.order(x, "1*7");
        Check.order(x, "2*1,3*2");
        Check.is("53: three", x.orders(), 3);
        Check.is("54: wanted", x.wanted(0, 0) + "," + x.wanted(0, 9) + "," + x.wanted(0, 1), "5,20,0");
        Check.is("55: things", x.thingsOf(0) + "," + x.thingsOf(1) + "," + x.thingsOf(2), "25,7,3");
        for (int order : NO_ORDERS) {
            Check.fails("11: " + order, x, INDEX, () -> x.cancel(order));
            Check.fails("54: " + order, x, INDEX, () -> x.wanted(order, 0));
            Check.fails("55: " + order, x, INDEX, () -> x.thingsOf(order));
        }
        for (int kind : new int[] {-1, 10, Integer.MIN_VALUE, Integer.MAX_VALUE}) {
            Check.fails("54: kind " + kind, x, INDEX, () -> x.wanted(0, kind));
        }
        Check.is("11: its things", x.cancel(1), 7);
        Check.is("11: later ones are 1 less", x.thingsOf(0) + "," + x.thingsOf(1) + "," + x.wanted(1, 3), "25,3,2");
        Check.is("11: orders", x.orders(), 2);
        Check.is("66: not served", x.served(), 0);
        x.undo();
        Check.is("11: undone", x.orders() + "," + x.thingsOf(1), "3,7");
        x.cancel(2);
        Check.is("11: the last", x.thingsOf(0) + "," + x.thingsOf(1), "25,7");
        for (int order = 2; order < 8; order++) {
            Check.order(x, "8*1".replace('1', (char) ('0' + order)));
        }
        Check.is("11: the first of 8", x.cancel(0), 25);
        Check.is("11: the last of 7", x.wanted(6, 8), 7);
    }

    private static void promise56CanServe() {
        GlideShelves x = stocked();
        Check.order(x, "0*7,1*10,2*1");
        Check.order(x, "0*8");
        Check.order(x, "3*1");
        Check.is("56: all that there is", x.canServe(0), true);
        Check.is("56: one more", x.canServe(1), false);
        Check.is("56: a kind that there is not", x.canServe(2), false);
        x.fetch(3);
        Check.is("56: with the shelf at the window", x.canServe(0), true);
        x.take(2, 1);
        Check.is("56: it gave one away", x.canServe(0), false);
        for (int order : NO_ORDERS) {
            Check.fails("56: " + order, x, INDEX, () -> x.canServe(order));
        }
    }

    private static void choice(GlideShelves x, String text, int due) {
        int order = Check.order(x, text);
        Check.is("57: " + text, x.fewestByTrying(order), Integer.bitCount(due));
        Check.is("58: " + text, x.fewestByGoing(order), Integer.bitCount(due));
        Check.is("59: " + text, x.choiceFor(order), due);
        x.cancel(order);
    }

    private static void promise57To59Choices() {
        GlideShelves x = stocked();
        choice(x, "0*2", 0b00001);
        choice(x, "0*3", 0b01000);
        choice(x, "0*5", 0b01001);
        choice(x, "0*6", 0b01001);
        choice(x, "0*7", 0b01101);
        choice(x, "1*4", 0b10000);
        choice(x, "1*6", 0b10010);
        choice(x, "1*8", 0b10010);
        choice(x, "1*9", 0b10110);
        choice(x, "0*1,1*1", 0b00100);
        choice(x, "0*1,1*3", 0b00011);
        choice(x, "0*3,1*2", 0b00101);
        choice(x, "2*1", 0b01000);
        choice(x, "0*7,1*10,2*1", 0b11111);
        choice(x, "0*4,1*5,2*1", 0b11000);
        x.fetch(3);
        choice(x, "0*3", 0b01000);
        Check.order(x, "0*1");
        Check.order(x, "4*1");
        Check.order(x, "1*11");
        for (int order = 1; order < 3; order++) {
            int none = order;
            Check.fails("57: none can", x, STATE, () -> x.fewestByTrying(none));
            Check.fails("58: none can", x, STATE, () -> x.fewestByGoing(none));
            Check.fails("59: none can", x, STATE, () -> x.choiceFor(none));
        }
        for (int order : NO_ORDERS) {
            Check.fails("57: " + order, x, INDEX, () -> x.fewestByTrying(order));
            Check.fails("58: " + order, x, INDEX, () -> x.fewestByGoing(order));
            Check.fails("59: " + order, x, INDEX, () -> x.choiceFor(order));
        }
    }

    private static void promise57AllTwelve() {
        GlideShelves x = Check.tower(1, 1, 1, 1, 1, 1, 1, 1, 1, 1, 1, 1);
        for (int shelf = 0; shelf < 12; shelf++) {
            Check.restock(x, shelf, 5, 1);
        }
        choice(x, "5*12", 0xFFF);
        choice(x, "5*11", 0x7FF);
        choice(x, "5*1", 1);
        Check.restock(x, 11, 5, 7);
        choice(x, "5*8", 0x800);
        choice(x, "5*9", 0x801);
        choice(x, "5*19", 0xFFF);
    }

    private static void promise12Serve() {
        GlideShelves x = stocked();
        Check.order(x, "3*1");
        Check.order(x, "0*5,1*1");
        Check.order(x, "1*2");
        int before = x.ticks();
        Check.is("59: the choice", x.choiceFor(1), 0b01100);
        // From 4 to 2, 2 to the window and back; from 2 to 3, 3 to the window and back.
        Check.is("12: ticks", x.serve(1), 2 + 2 + 2 + 1 + 3 + 3);
        Check.is("12: all ticks", x.ticks(), before + 13);
        Check.is("12: the lift", x.lift(), 3);
        Check.is("12: of the first, all", x.thingsIn(2, 0) + "," + x.thingsIn(2, 1), "0,1");
        Check.is("12: of the second, what is wanted yet", x.thingsIn(3, 0) + "," + x.thingsIn(3, 2), "0,1");
        Check.is("12: of no other", x.thingsIn(0, 0) + "," + x.thingsIn(4, 1), "2,5");
        Check.is("12: the order is gone", x.orders() + "," + x.thingsOf(1), "2,2");
        Check.is("66: served", x.served(), 1);
        Check.is("12: undoable, as one call", x.savedStates(), 6);
        Check.fails("12: no choice", x, STATE, () -> x.serve(0));
        x.undo();
        Check.is("12: undone", x.orders() + "," + x.thingsIn(3, 0) + "," + x.served() + "," + x.ticks(),
                "3,4,0," + before);
        x.fetch(0);
        Check.fails("12: at the window", x, STATE, () -> x.serve(1));
        for (int order : NO_ORDERS) {
            Check.fails("12: " + order, x, INDEX, () -> x.serve(order));
        }
    }

    private static void promise12ByTheOtherRule() {
        GlideShelves x = stocked();
        x.fetch(0);
        x.stowAt(0, 10);
        x.turnRule();
        Check.order(x, "0*5,1*1");
        Check.is("59: the choice", x.choiceFor(0), 0b01100);
        // From 10 to 2, 2 to the window, to 0 in front; from 0 to 3, 3 to the window, to 1 in front, where 5 are free.
        Check.is("60: ticks", x.ticksByServing(0), 8 + 2 + 0 + 3 + 3 + 1);
        Check.fails("61: the other rule", x, STATE, () -> x.ticksBySums(0));
        Check.is("12: ticks", x.serve(0), 17);
        Check.is("12: places", x.slotOf(2) + "," + x.slotOf(3), "0,1");
        Check.is("12: the lift", x.lift(), 1);
    }

    private static void promise12AThingOfEach() {
        GlideShelves x = Check.tower(1, 1, 1);
        Check.restock(x, 0, 0, 5);
        x.fetch(0);
        x.fill(1, 1);
        x.stow();
        Check.restock(x, 1, 1, 6);
        Check.order(x, "0*5,1*6");
        Check.is("59: the choice", x.choiceFor(0), 0b011);
        x.serve(0);
        Check.is("12: the lower one gives first", x.thingsIn(0, 1) + "," + x.thingsIn(1, 1), "0,1");
        Check.is("48: the account", x.stockByAccount(0) + "," + x.stockByAccount(1), "0,1");
    }

    private static void promise13And63ServeAll() {
        GlideShelves x = stocked();
        Check.order(x, "0*8");
        Check.order(x, "0*4");
        Check.order(x, "0*4,1*1");
        Check.order(x, "0*3");
        Check.order(x, "5*1");
        Check.order(x, "1*10");
        int before = x.ticks();
        // The second, then not the third, for lack of 1, then the fourth and the sixth.
        Check.is("63: servable", x.servable(), 3);
        long digest = x.digest();
        Check.is("63: servable, once more", x.servable(), 3);
        Check.is("63: changes nothing", x.digest(), digest);
        int spent = x.serveAll();
        Check.is("13: ticks", x.ticks(), before + spent);
        // Shelf 3 from 4; shelf 0 and shelf 2 from 3; shelves 1, 2 and 4 from 2.
        Check.is("13: ticks by hand", spent, (1 + 3 + 3) + (3 + 0 + 0 + 2 + 2 + 2) + (2 + 2 + 2 + 2 + 2 + 2 + 2 + 6 + 6));
        Check.is("13: those that are left", x.orders() + "," + x.thingsOf(0) + "," + x.thingsOf(1) + "," + x.thingsOf(2),
                "3,8,5,1");
        Check.is("66: served", x.served(), 3);
        Check.is("63: none", x.servable(), 0);
        Check.is("13: none", x.serveAll(), 0);
        x.undo();
        Check.is("13: undoable, also if it changes nothing", x.orders(), 3);
        x.undo();
        Check.is("13: undone, as one call", x.digest() != digest && x.orders() == 6 && x.ticks() == before, true);
        x.fetch(1);
        Check.fails("13: at the window", x, STATE, x::serveAll);
        Check.fails("63: at the window", x, STATE, x::servable);
        GlideShelves y = new GlideShelves();
        Check.is("13: nothing there", y.serveAll() + y.servable(), 0);
        Check.is("13: undoable", y.savedStates(), 1);
    }

    private static void promise60And61Ticks() {
        GlideShelves x = stocked();
        Check.order(x, "0*5,1*1");
        Check.order(x, "0*7,1*10,2*1");
        Check.order(x, "8*1");
        Check.is("60: by doing", x.ticksByServing(0), 13);
        Check.is("61: by sums", x.ticksBySums(0), 13);
        // 4 to 0, twice 0; 0 to 0, twice 2; 0 to 2, twice 2; 2 to 3, twice 3; 3 to 4, twice 6.
        Check.is("60: all shelves", x.ticksByServing(1), 4 + 4 + 2 + 4 + 1 + 6 + 1 + 12);
        Check.is("61: all shelves", x.ticksBySums(1), 34);
        x.fetch(0);
        x.stowAt(0, 18);
        Check.order(x, "0*2");
        Check.is("60: the first shelf, at the lift", x.ticksByServing(3), 36);
        Check.is("61: the first shelf, at the lift", x.ticksBySums(3), 36);
        x.undo();
        x.undo();
        x.undo();
        Check.fails("60: no choice", x, STATE, () -> x.ticksByServing(2));
        Check.fails("61: no choice", x, STATE, () -> x.ticksBySums(2));
        long before = x.digest();
        x.ticksByServing(1);
        Check.is("60: changes nothing", x.digest(), before);
        x.turnRule();
        Check.is("60: the other rule", x.ticksByServing(0), 13);
        Check.fails("61: the other rule", x, STATE, () -> x.ticksBySums(0));
        x.turnRule();
        x.fetch(0);
        Check.fails("60: at the window", x, STATE, () -> x.ticksByServing(0));
        Check.fails("61: at the window", x, STATE, () -> x.ticksBySums(0));
        for (int order : NO_ORDERS) {
            Check.fails("60: " + order, x, INDEX, () -> x.ticksByServing(order));
            Check.fails("61: " + order, x, INDEX, () -> x.ticksBySums(order));
        }
    }

    private static void promise62CheapestOrder() {
        GlideShelves x = stocked();
        Check.fails("62: no orders", x, STATE, x::cheapestOrder);
        Check.order(x, "8*1");
        Check.fails("62: none can be served", x, STATE, x::cheapestOrder);
        Check.order(x, "0*7,1*10,2*1");
        Check.is("62: the only one", x.cheapestOrder(), 1);
        Check.order(x, "1*5");
        Check.is("62: 12 ticks", x.cheapestOrder(), 2);
        Check.order(x, "0*1");
        Check.is("62: 4 ticks", x.cheapestOrder(), 3);
        Check.order(x, "0*2");
        Check.is("62: the lowest", x.cheapestOrder(), 3);
        Check.restock(x, 4, 8, 1);
        Check.is("62: the first one can be served now", x.canServe(0) && x.cheapestOrder() == 3, true);
        x.fetch(0);
        Check.fails("62: at the window", x, STATE, x::cheapestOrder);
        x.stowAt(0, 18);
        Check.is("62: from 18, by the ticks of now", x.ticksByServing(3) + "," + x.ticksByServing(2), "36,26");
        Check.is("62: the lowest of the first and the third", x.cheapestOrder(), 0);
        x.cancel(0);
        Check.is("62: with the numbers of now", x.cheapestOrder(), 1);
    }

    public static void main(String[] args) {
        promise11And53To55Orders();
        promise56CanServe();
        promise57To59Choices();
        promise57AllTwelve();
        promise12Serve();
        promise12ByTheOtherRule();
        promise12AThingOfEach();
        promise13And63ServeAll();
        promise60And61Ticks();
        promise62CheapestOrder();
        Check.end("OrdersTest");
    }
}
