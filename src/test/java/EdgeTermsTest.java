/** Edges of the terms, which hold for every promise: the tower, the lift, things and orders. */
public final class EdgeTermsTest {
    private EdgeTermsTest() {
    }

    private static void anObjectIsGoodFor512Calls() {
        Edge.of(0, "An object is used for at most 512 calls after it has been made; what later calls answer is free.");
        GlideShelves x = Check.tower(1);
        for (int i = 0; i < 255; i++) {
            x.fetch(0);
            x.stow();
        }
        Edge.is("the last call of 512", x.fetches(), 255);
        GlideShelves y = new GlideShelves();
        for (int i = 0; i < 511; i++) {
            y.turnRule();
        }
        Edge.is("the last call of 512, all others undoable", y.isKeptPlace(), false);
        GlideShelves z = Edge.eightOrders();
        long digest = z.digest();
        for (int i = 0; i < 470; i++) {
            digest = z.digest();
        }
        Edge.is("the last call of 512, most others a digest", z.digest(), digest);
    }

    private static void twoSidesOf20Slots() {
        Edge.of(0, "The tower has two sides, 0 (in front) and 1 (behind), with 20 slots each, numbered from 0, the lowest one.");
        GlideShelves x = new GlideShelves();
        Edge.is("in front", x.isFree(0, 0) && x.isFree(0, 19), true);
        Edge.is("behind", x.isFree(1, 0) && x.isFree(1, 19), true);
        Edge.is("slots", x.freeBySlots(), 40);
        Edge.refuses(Edge.INDEX, Edge::rich, y -> y.isFree(0, 20));
        Edge.refuses(Edge.INDEX, Edge::rich, y -> y.isFree(1, 20));
        Edge.refuses(Edge.INDEX, Edge::rich, y -> y.isFree(2, 0));
        Edge.refuses(Edge.INDEX, Edge::rich, y -> y.isFree(-1, 19));
        Edge.refuses(Edge.INDEX, Edge::rich, y -> y.isFree(1, -1));
    }

    private static void atMost12Shelves() {
        Edge.of(0, "There are at most 12 shelves, numbered from 0 in the order in which they were added.");
        GlideShelves x = new GlideShelves();
        for (int shelf = 0; shelf < 12; shelf++) {
            Edge.is("the next number", x.addShelf(1 + shelf % 3), shelf);
        }
        Edge.refuses(Edge.STATE, Edge::twelve, y -> y.addShelf(1));
        for (int shelf = 0; shelf < 12; shelf++) {
            Edge.is("in that order", x.heightOf(shelf), 1 + shelf % 3);
        }
        x.scrap(4);
        Edge.is("the next number after scrapping", x.addShelf(1), 11);
    }

    private static void aShelfTakesSlotsSideBySide() {
        Edge.of(0, "A shelf of the height h, 1 to 4, takes h slots side by side on one side; its place is the lowest one of these.");
        for (int height = 1; height <= 4; height++) {
            GlideShelves x = Check.tower(height);
            checkTaken(x, 0, 0, height);
            Edge.move(x, 0, 0, 20 - height);
            checkTaken(x, 0, 20 - height, height);
            Edge.move(x, 0, 1, 0);
            checkTaken(x, 1, 0, height);
            Edge.move(x, 0, 1, 20 - height);
            checkTaken(x, 1, 20 - height, height);
        }
    }

    private static void checkTaken(GlideShelves x, int side, int slot, int height) {
        Edge.is("the place", x.sideOf(0) + " " + x.slotOf(0), side + " " + slot);
        for (int place = 0; place < 40; place++) {
            boolean isTaken = place >= 20 * side + slot && place < 20 * side + slot + height;
            Edge.is(height + " from " + slot + ", slot " + place, x.isFree(place / 20, place % 20), !isTaken);
        }
    }

    private static void aPlaceThatFits() {
        Edge.of(0, "A place fits a height, if so many slots from it on are there and free.");
        for (int height = 2; height <= 4; height++) {
            int h = height;
            Edge.Maker fetched = () -> {
                GlideShelves x = Check.tower(h);
                x.fetch(0);
                return x;
            };
            for (int side = 0; side < 2; side++) {
                int s = side;
                Edge.is("the last slots", fetched.make().stowAt(side, 20 - h), 20 - h + 2 * side);
                for (int slot = 21 - h; slot < 20; slot++) {
                    int over = slot;
                    Edge.refuses(Edge.STATE, fetched, x -> x.stowAt(s, over));
                }
            }
        }
        Edge.is("a row of 3 for 3", Edge.threeFree().firstPlace(3), 37);
        Edge.refuses(Edge.STATE, Edge::threeFree, x -> x.firstPlace(4));
        Edge.is("a row of 3 is filled", Edge.threeFree().addShelf(3), 10);
        Edge.refuses(Edge.STATE, Edge::threeFree, x -> x.addShelf(4));
    }

    private static void theFirstPlace() {
        Edge.of(0, "The first place that fits is the one with the lowest slot, of two with the same slot the one in front.");
        GlideShelves x = new GlideShelves();
        Edge.is("the same slot, in front", x.firstPlace(4), 0);
        x.addShelf(1);
        Edge.is("the lowest slot, behind", x.firstPlace(4), 20);
        x.addShelf(3);
        Edge.is("the lowest slot, in front", x.firstPlace(4), 1);
        x.addShelf(4);
        Edge.is("a lower slot behind", x.firstPlace(1), 23);
        x.addShelf(2);
        Edge.is("the same slot again, in front", x.firstPlace(1), 5);
    }

    private static void atTheWindow() {
        Edge.of(0, "A shelf that is at the window takes no slots.");
        GlideShelves x = Edge.full();
        Edge.is("none is free", x.freeBySlots(), 0);
        x.fetch(9);
        Edge.is("its slots are free", x.freeBySlots() + " " + x.firstPlace(4), "4 36");
        Edge.is("all of them", x.isFree(1, 16) && x.isFree(1, 19) && !x.isFree(1, 15), true);
        Edge.of(0, "One shelf at the most is at the window.");
        Edge.refuses(Edge.STATE, Edge::atWindow, y -> y.fetch(0));
        Edge.refuses(Edge.STATE, Edge::atWindow, y -> y.fetch(1));
    }

    private static void theWayOfAPlace() {
        Edge.of(0, "The way of a place from the window is its slot, and 2 more for the side 1.");
        int[][] ways = {{0, 0, 0}, {0, 1, 1}, {0, 19, 19}, {1, 0, 2}, {1, 1, 3}, {1, 19, 21}};
        for (int[] way : ways) {
            GlideShelves x = Check.tower(1);
            x.fetch(0);
            Edge.is("of " + way[0] + ", " + way[1], x.stowAt(way[0], way[1]), way[2]);
            Edge.is("as a sum", x.usedWays(), way[2]);
        }
    }

    private static void theLiftAtFirst() {
        Edge.of(0, "The lift is at a slot, at first at 0.");
        Edge.is("at first", new GlideShelves().lift(), 0);
        Edge.is("added shelves do not move it", Edge.full().lift(), 0);
    }

    private static void ticksOfFetching() {
        Edge.of(0, "Fetching a shelf takes as many ticks as the lift's slot is away from that of the shelf, and the way of its"
                + " place from the window, together; the lift is at the slot 0 then.");
        // The shelf 0 waits at the slot, the lift comes to its own slot with the shelf 1.
        int[][] dues = {{0, 0, 0, 0}, {19, 0, 0, 38}, {0, 0, 19, 19}, {19, 0, 19, 19}, {0, 1, 0, 2}, {19, 1, 0, 40},
            {0, 1, 19, 21}, {19, 1, 19, 21}, {5, 0, 8, 8}, {8, 0, 5, 11}, {8, 1, 5, 13}};
        for (int[] due : dues) {
            GlideShelves x = Check.tower(1, 1);
            Edge.move(x, 1, 1, 10);
            Edge.move(x, 0, due[1], due[0]);
            Edge.move(x, 1, 1 - due[1], due[2]);
            Edge.is("from " + due[2] + " to " + due[0] + " of " + due[1], x.fetchTicks(0) + " " + x.fetch(0),
                    due[3] + " " + due[3]);
            Edge.is("the lift is at 0 then", x.lift(), 0);
        }
    }

    private static void ticksOfStowing() {
        Edge.of(0, "Stowing takes the way of the place to which the shelf comes; the lift is at the slot of that place then.");
        GlideShelves x = Check.tower(1);
        Edge.move(x, 0, 1, 19);
        x.fetch(0);
        Edge.is("the last place", x.stow() + " " + x.lift(), "21 19");
        Edge.move(x, 0, 0, 0);
        x.fetch(0);
        Edge.is("the first place", x.stow() + " " + x.lift(), "0 0");
    }

    private static void theRuleOfStowing() {
        Edge.of(0, "A shelf is stowed where it was (at first this is so), or at the first place that fits, as is told by turnRule().");
        GlideShelves x = Check.tower(2, 2);
        Edge.move(x, 0, 1, 18);
        x.fetch(0);
        x.stow();
        Edge.is("where it was, though lower ones fit", Edge.place(x, 0), 38);
        x.turnRule();
        x.fetch(0);
        x.stow();
        Edge.is("the first place", Edge.place(x, 0), 0);
        x.turnRule();
        Edge.move(x, 0, 0, 9);
        x.fetch(0);
        x.stow();
        Edge.is("where it was, turned again", Edge.place(x, 0), 9);
    }

    private static void thereAlwaysIsAPlace() {
        Edge.of(0, "(There always is one, as no shelf is added while one is at the window.)");
        for (int shelf = 0; shelf < 10; shelf++) {
            GlideShelves x = Edge.full();
            int place = Edge.place(x, shelf);
            x.fetch(shelf);
            x.stow();
            Edge.is("where it was", Edge.place(x, shelf), place);
            x.turnRule();
            x.fetch(shelf);
            x.stow();
            Edge.is("the only place", Edge.place(x, shelf), place);
            Edge.is("full again", x.freeBySlots(), 0);
        }
        Edge.refuses(Edge.STATE, Edge::atWindow, x -> x.addShelf(1));
    }

    private static void theLatest8Trips() {
        Edge.of(0, "The latest 8 trips of the lift, fetchings and stowings (those of serving orders, too), are remembered.");
        GlideShelves x = Check.tower(1);
        x.fetch(0);
        for (int slot = 1; slot <= 3; slot++) {
            x.stowAt(0, slot);
            x.fetch(0);
        }
        Edge.is("7 trips", x.trips() + " " + x.tripTicks(6) + " " + x.wasFetch(6), "7 0 true");
        x.stowAt(0, 4);
        Edge.is("8 trips", x.trips() + " " + x.tripTicks(7) + " " + x.wasFetch(7), "8 0 true");
        Edge.is("the latest one", x.tripTicks(0) + " " + x.wasFetch(0), "4 false");
        x.fetch(0);
        Edge.is("the 9th drops the first", x.trips() + " " + x.tripTicks(7) + " " + x.wasFetch(7), "8 1 false");
        GlideShelves y = Edge.twelve();
        for (int shelf = 0; shelf < 12; shelf++) {
            Check.restock(y, shelf, 0, 1);
        }
        Check.order(y, "0*12");
        y.serve(0);
        Edge.is("24 trips of serving", y.trips(), 8);
        // The last four shelves are 8 to 11, at 4 and 5, each in front and behind; the lift comes from 3.
        int[] dues = {7, 7, 5, 6, 6, 6, 4, 5};
        for (int ago = 0; ago < 8; ago++) {
            Edge.is(ago + " ago", y.tripTicks(ago) + " " + y.wasFetch(ago), dues[ago] + " " + (ago % 2 == 1));
        }
    }

    private static void thingsAtFirst() {
        Edge.of(0, "There are 10 kinds of things, numbered from 0, each with a weight of 1 to 9, at first 1, and a number of things that there should be at the least, at first 0.");
        GlideShelves x = new GlideShelves();
        for (int kind = 0; kind < 10; kind++) {
            Edge.is("at first", x.weightOfKind(kind) + " " + x.leastOf(kind), "1 0");
        }
        Edge.is("the lightest", x.changeWeight(0, 1) + " " + x.weightOfKind(0), "1 1");
        Edge.is("the heaviest", x.changeWeight(9, 9) + " " + x.weightOfKind(9), "1 9");
        Edge.refuses(Edge.INDEX, Edge::rich, y -> y.changeWeight(10, 1));
        Edge.refuses(Edge.INDEX, Edge::rich, y -> y.changeWeight(-1, 1));
        Edge.refuses(Edge.ARGUMENT, Edge::rich, y -> y.changeWeight(9, 0));
        Edge.refuses(Edge.ARGUMENT, Edge::rich, y -> y.changeWeight(9, 10));
    }

    /** A shelf at the window with so many things of the weight 1. */
    private static GlideShelves loaded(int things) {
        GlideShelves x = Check.tower(1);
        x.fetch(0);
        for (int left = things; left > 0; left -= 20) {
            x.fill(4, Math.min(left, 20));
        }
        return x;
    }

    private static void aWeightOf150() {
        Edge.of(0, "A shelf may have a weight of 150 at the most.");
        Edge.is("149 and 1", loaded(149).fill(4, 1), 150);
        Edge.is("130 and 20", loaded(130).fill(4, 20), 150);
        Edge.refuses(Edge.STATE, () -> loaded(150), x -> x.fill(4, 1));
        Edge.refuses(Edge.STATE, () -> loaded(149), x -> x.fill(4, 2));
        Edge.refuses(Edge.STATE, () -> loaded(131), x -> x.fill(4, 20));
        Edge.is("75 of 2", loaded(75).changeWeight(4, 2), 1);
        Edge.refuses(Edge.STATE, () -> loaded(76), x -> x.changeWeight(4, 2));
        Edge.is("50 of 3", loaded(50).changeWeight(4, 3), 1);
        Edge.refuses(Edge.STATE, () -> loaded(51), x -> x.changeWeight(4, 3));
    }

    private static void atMost8Orders() {
        Edge.of(0, "There are at most 8 orders, numbered from 0 in the order in which they were taken on.");
        GlideShelves x = Edge.eightOrders();
        for (int order = 0; order < 8; order++) {
            Edge.is("in that order", x.wanted(order, order) + " " + x.thingsOf(order), (order + 1) + " " + (order + 1));
        }
        Edge.refuses(Edge.STATE, () -> {
            GlideShelves y = Edge.eightOrders();
            Check.type(y, "8*9");
            return y;
        }, y -> y.accept());
    }

    /** 3 and 2 things of the kind 0, and 4 of the kind 9 in the second one. */
    private static GlideShelves two() {
        GlideShelves x = Check.tower(1, 1);
        Check.restock(x, 0, 0, 3);
        Check.restock(x, 1, 0, 2);
        Check.restock(x, 1, 9, 4);
        return x;
    }

    private static void aSetThatCanServe() {
        Edge.of(0, "A set of shelves can serve it, if these shelves, together, have so many things of each kind.");
        String[] texts = {"0*3", "0*4", "0*5", "0*6", "9*4", "9*5", "0*2,9*4", "0*3,9*4", "0*2,9*5", "0*5,9*4",
            "0*6,9*4", "0*1,1*1"};
        int[] dues = {0b01, 0b11, 0b11, -1, 0b10, -1, 0b10, 0b11, -1, 0b11, -1, -1};
        for (int i = 0; i < texts.length; i++) {
            GlideShelves x = two();
            Check.order(x, texts[i]);
            Edge.is(texts[i], x.canServe(0), dues[i] >= 0);
            if (dues[i] >= 0) {
                Edge.is(texts[i] + " by", x.choiceFor(0), dues[i]);
            }
        }
    }

    private static void theChoice() {
        Edge.of(0, "The choice of an order is the set of the fewest shelves that can serve it, of several the one that is the least"
                + " number as a set: the bit s is 1 just if the shelf s is in it.");
        GlideShelves x = Check.tower(1, 1, 1, 1, 1);
        Check.restock(x, 0, 0, 2);
        Check.restock(x, 3, 1, 2);
        for (int shelf = 1; shelf <= 2; shelf++) {
            x.fetch(shelf);
            x.fill(0, 1);
            x.fill(1, 1);
            x.stow();
        }
        Check.order(x, "0*2,1*2");
        Edge.is("1 and 2 rather than 0 and 3", x.choiceFor(0), 0b0110);
        Check.restock(x, 4, 0, 2);
        Check.restock(x, 4, 1, 1);
        Edge.is("still, 4 lacks one", x.choiceFor(0), 0b0110);
        Check.restock(x, 4, 1, 1);
        Edge.is("one alone, though its number is the highest", x.choiceFor(0), 0b10000);
        Check.order(x, "0*1");
        Edge.is("the lowest of like ones", x.choiceFor(1), 0b00001);
    }

    private static void theOneAtTheWindowCounts() {
        Edge.of(0, "(The shelf at the window counts, too.)");
        GlideShelves x = two();
        Check.order(x, "0*5");
        Check.order(x, "0*3");
        x.fetch(0);
        Edge.is("for a set", x.canServe(0) + " " + x.choiceFor(0) + " " + x.fewestByTrying(0) + " "
                + x.fewestByGoing(0), "true 3 2 2");
        Edge.is("alone", x.choiceFor(1), 1);
    }

    private static void inServing() {
        Edge.of(0, "In serving, the shelves of the choice are fetched by their numbers; each gives of each kind as many as are wanted yet and it has.");
        GlideShelves x = two();
        Check.order(x, "0*4,9*1");
        x.serve(0);
        Edge.is("all that the first one has", x.thingsIn(0, 0), 0);
        Edge.is("what is wanted yet of the second one", x.thingsIn(1, 0) + " " + x.thingsIn(1, 9), "1 3");
        Edge.of(0, "Each thing that is given is taken.");
        Edge.is("by the account, too", x.stockByAccount(0) + " " + x.stockByAccount(9), "1 3");
        GlideShelves y = two();
        Check.order(y, "0*3,9*1");
        y.serve(0);
        Edge.is("the first one is enough, the second gives none", y.thingsIn(0, 0) + " " + y.thingsIn(1, 0), "0 2");
    }

    public static void main(String[] args) {
        anObjectIsGoodFor512Calls();
        twoSidesOf20Slots();
        atMost12Shelves();
        aShelfTakesSlotsSideBySide();
        aPlaceThatFits();
        theFirstPlace();
        atTheWindow();
        theWayOfAPlace();
        theLiftAtFirst();
        ticksOfFetching();
        ticksOfStowing();
        theRuleOfStowing();
        thereAlwaysIsAPlace();
        theLatest8Trips();
        thingsAtFirst();
        aWeightOf150();
        atMost8Orders();
        aSetThatCanServe();
        theChoice();
        theOneAtTheWindowCounts();
        inServing();
        Edge.end("EdgeTermsTest");
    }
}
