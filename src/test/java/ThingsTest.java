/** Things, their weights and stocks: promises 8, 9, 14, 15, 29, 30, 42, 46 to 52 and 68. */
public final class ThingsTest {
    private static final Class<?> INDEX = IndexOutOfBoundsException.class;
    private static final Class<?> ARGUMENT = IllegalArgumentException.class;
    private static final Class<?> STATE = IllegalStateException.class;
    private static final int[] NO_KINDS = {-1, 10, Integer.MIN_VALUE, Integer.MAX_VALUE};

    private ThingsTest() {
    }

    private static void promise8Fill() {
        GlideShelves x = Check.tower(1, 2);
        Check.fails("8: none at the window", x, STATE, () -> x.fill(0, 1));
        Check.fails("8: many, named before", x, ARGUMENT, () -> x.fill(0, 0));
        Check.fails("8: kind, named first", x, INDEX, () -> x.fill(10, 0));
        x.fetch(1);
        Check.is("8: the first", x.fill(3, 20), 20);
        Check.is("8: more", x.fill(3, 1), 21);
        Check.is("8: another kind", x.fill(9, 2), 2);
        Check.is("8: into this shelf", x.thingsIn(1, 3) + "," + x.thingsIn(1, 9) + "," + x.thingsIn(0, 3), "21,2,0");
        Check.is("8: the account", x.stockByAccount(3), 21);
        for (int kind : NO_KINDS) {
            Check.fails("8: kind " + kind, x, INDEX, () -> x.fill(kind, 1));
        }
        for (int many : new int[] {0, -1, 21, Integer.MIN_VALUE, Integer.MAX_VALUE}) {
            Check.fails("8: many " + many, x, ARGUMENT, () -> x.fill(0, many));
        }
        x.changeWeight(0, 9);
        Check.is("8: 23 and 126", x.fill(0, 14), 14);
        Check.fails("8: 158", x, STATE, () -> x.fill(0, 1));
        Check.fails("8: 151", x, STATE, () -> x.fill(1, 2));
        Check.is("8: 150", x.fill(1, 1), 1);
        Check.fails("8: full", x, STATE, () -> x.fill(5, 1));
        Check.fails("8: many, named before", x, ARGUMENT, () -> x.fill(5, 21));
        x.undo();
        Check.is("8: undone", x.thingsIn(1, 1) + x.stockByAccount(1), 0);
    }

    private static void promise9Take() {
        GlideShelves x = Check.tower(1, 2);
        Check.fails("9: none at the window", x, STATE, () -> x.take(0, 1));
        Check.fails("9: many, named before", x, ARGUMENT, () -> x.take(0, 21));
        Check.fails("9: kind, named first", x, INDEX, () -> x.take(-1, 0));
        Check.restock(x, 0, 4, 9);
        x.fetch(1);
        x.fill(4, 7);
        Check.fails("9: only those of this shelf", x, STATE, () -> x.take(4, 8));
        Check.is("9: some", x.take(4, 5), 2);
        Check.fails("9: no more so many", x, STATE, () -> x.take(4, 3));
        Check.is("9: the rest", x.take(4, 2), 0);
        Check.fails("9: another kind", x, STATE, () -> x.take(5, 1));
        Check.is("9: stocks", x.stockByShelves(4) + "," + x.stockByAccount(4), "9,9");
        for (int kind : NO_KINDS) {
            Check.fails("9: kind " + kind, x, INDEX, () -> x.take(kind, 1));
        }
        for (int many : new int[] {0, -1, 21, Integer.MIN_VALUE, Integer.MAX_VALUE}) {
            Check.fails("9: many " + many, x, ARGUMENT, () -> x.take(4, many));
        }
        x.fill(2, 20);
        Check.is("9: 20", x.take(2, 20), 0);
        x.undo();
        Check.is("9: undone", x.thingsIn(1, 2) + "," + x.stockByAccount(2), "20,20");
    }

    private static void promise14And50To52Least() {
        GlideShelves x = Check.tower(2, 1);
        Check.is("14: before, at first", x.changeLeast(3, 99), 0);
        Check.is("50: the least", x.leastOf(3) + "," + x.leastOf(2), "99,0");
        Check.is("14: before", x.changeLeast(3, 5), 99);
        Check.is("51: all are missing", x.missingOf(3), 5);
        x.changeLeast(0, 1);
        x.changeLeast(9, 2);
        Check.is("52: three kinds", x.shortKinds(), 1 | 1 << 3 | 1 << 9);
        Check.restock(x, 0, 3, 2);
        x.fetch(1);
        x.fill(3, 2);
        Check.is("51: with the shelf at the window", x.missingOf(3), 1);
        x.fill(3, 1);
        Check.is("51: as many", x.missingOf(3), 0);
        x.fill(3, 7);
        Check.is("51: more", x.missingOf(3), 0);
        Check.is("52: two kinds", x.shortKinds(), 1 | 1 << 9);
        x.changeLeast(9, 0);
        Check.is("52: 0 are there", x.shortKinds(), 1);
        x.undo();
        Check.is("14: undone", x.leastOf(9), 2);
        for (int kind : NO_KINDS) {
            Check.fails("14: kind " + kind, x, INDEX, () -> x.changeLeast(kind, 100));
            Check.fails("50: kind " + kind, x, INDEX, () -> x.leastOf(kind));
            Check.fails("51: kind " + kind, x, INDEX, () -> x.missingOf(kind));
        }
        for (int many : new int[] {-1, 100, Integer.MIN_VALUE, Integer.MAX_VALUE}) {
            Check.fails("14: many " + many, x, ARGUMENT, () -> x.changeLeast(3, many));
        }
    }

    private static void promise15And46Weights() {
        GlideShelves x = Check.tower(2, 1);
        Check.is("46: at first", x.weightOfKind(0) + x.weightOfKind(9), 2);
        Check.is("15: before, at first", x.changeWeight(9, 4), 1);
        Check.is("46: the weight", x.weightOfKind(9) + "," + x.weightOfKind(8), "4,1");
        Check.is("15: before", x.changeWeight(9, 9), 4);
        x.fetch(0);
        x.fill(9, 10);
        x.fill(1, 20);
        x.fill(1, 10);
        Check.is("15: 150 of 90 and 60", x.changeWeight(1, 2), 1);
        Check.is("30: 150", x.weightOf(0), 150);
        Check.fails("15: 180, at the window", x, STATE, () -> x.changeWeight(1, 3));
        Check.fails("15: weight, named before", x, ARGUMENT, () -> x.changeWeight(1, 10));
        x.stow();
        Check.fails("15: 180, in the tower", x, STATE, () -> x.changeWeight(1, 3));
        Check.is("15: of no thing", x.changeWeight(5, 9), 1);
        Check.is("15: the same", x.changeWeight(1, 2), 2);
        Check.is("15: lighter", x.changeWeight(9, 1), 9);
        Check.is("30: 70", x.weightOf(0), 70);
        x.undo();
        Check.is("15: undone", x.weightOfKind(9), 9);
        for (int kind : NO_KINDS) {
            Check.fails("15: kind " + kind, x, INDEX, () -> x.changeWeight(kind, 0));
            Check.fails("46: kind " + kind, x, INDEX, () -> x.weightOfKind(kind));
        }
        for (int weight : new int[] {0, -1, 10, Integer.MIN_VALUE, Integer.MAX_VALUE}) {
            Check.fails("15: weight " + weight, x, ARGUMENT, () -> x.changeWeight(0, weight));
        }
    }

    private static void promise15OfTheSecondShelf() {
        GlideShelves x = Check.tower(2, 1);
        Check.restock(x, 1, 0, 20);
        x.changeWeight(0, 7);
        Check.fails("15: 160 in the second one", x, STATE, () -> x.changeWeight(0, 8));
        Check.is("15: 140", x.weightOf(1), 140);
    }

    private static void promise29And30And42And68() {
        GlideShelves x = Check.tower(2, 4, 1, 3);
        Check.is("68: like ones", x.heaviest(), 0);
        Check.restock(x, 0, 0, 3);
        Check.restock(x, 1, 1, 4);
        Check.restock(x, 3, 1, 1);
        Check.restock(x, 3, 9, 2);
        Check.is("29: things", x.thingsIn(3, 1) + "," + x.thingsIn(3, 9) + "," + x.thingsIn(3, 0), "1,2,0");
        Check.is("30: weights", x.weightOf(0) + "," + x.weightOf(1) + "," + x.weightOf(2) + "," + x.weightOf(3),
                "3,4,0,3");
        Check.is("42: sides", x.sideWeight(0) + "," + x.sideWeight(1), "6,4");
        Check.is("68: the heaviest", x.heaviest(), 1);
        x.changeWeight(9, 5);
        Check.is("30: by the weights of now", x.weightOf(3), 11);
        Check.is("42: by the weights of now", x.sideWeight(0), 14);
        Check.is("68: by the weights of now", x.heaviest(), 3);
        x.fetch(3);
        Check.is("42: not the one at the window", x.sideWeight(0) + "," + x.sideWeight(1), "3,4");
        Check.is("68: the one at the window, too", x.heaviest(), 3);
        x.stowAt(1, 4);
        Check.is("42: its new side", x.sideWeight(0) + "," + x.sideWeight(1), "3,15");
        Check.restock(x, 2, 0, 11);
        Check.is("68: the lowest", x.heaviest(), 2);
        for (int shelf : new int[] {-1, 4, Integer.MIN_VALUE, Integer.MAX_VALUE}) {
            Check.fails("29: shelf " + shelf, x, INDEX, () -> x.thingsIn(shelf, 0));
            Check.fails("30: shelf " + shelf, x, INDEX, () -> x.weightOf(shelf));
        }
        for (int kind : NO_KINDS) {
            Check.fails("29: kind " + kind, x, INDEX, () -> x.thingsIn(0, kind));
        }
        for (int side : new int[] {-1, 2, Integer.MIN_VALUE, Integer.MAX_VALUE}) {
            Check.fails("42: side " + side, x, INDEX, () -> x.sideWeight(side));
        }
        GlideShelves y = new GlideShelves();
        Check.fails("68: none", y, STATE, y::heaviest);
    }

    private static void promise47To49Stocks() {
        GlideShelves x = Check.tower(2, 4, 1, 3);
        Check.restock(x, 0, 6, 3);
        Check.restock(x, 1, 6, 20);
        x.fetch(3);
        x.fill(6, 5);
        x.fill(7, 1);
        Check.is("47: with the one at the window", x.stockByShelves(6) + "," + x.stockByShelves(7), "28,1");
        Check.is("48: with the one at the window", x.stockByAccount(6) + "," + x.stockByAccount(7), "28,1");
        Check.is("49: shelves", x.shelvesWith(6) + "," + x.shelvesWith(7) + "," + x.shelvesWith(5), "3,1,0");
        x.take(6, 5);
        Check.is("47: taken", x.stockByShelves(6), 23);
        Check.is("48: taken", x.stockByAccount(6), 23);
        Check.is("49: emptied", x.shelvesWith(6), 2);
        x.stow();
        Check.order(x, "6*20,7*1");
        x.serve(0);
        Check.is("47: served", x.stockByShelves(6) + "," + x.stockByShelves(7), "3,0");
        Check.is("48: served", x.stockByAccount(6) + "," + x.stockByAccount(7), "3,0");
        Check.is("49: served", x.shelvesWith(6) + "," + x.shelvesWith(7), "1,0");
        x.undo();
        Check.is("48: undone", x.stockByAccount(6) + "," + x.stockByAccount(7), "23,1");
        for (int kind : NO_KINDS) {
            Check.fails("47: kind " + kind, x, INDEX, () -> x.stockByShelves(kind));
            Check.fails("48: kind " + kind, x, INDEX, () -> x.stockByAccount(kind));
            Check.fails("49: kind " + kind, x, INDEX, () -> x.shelvesWith(kind));
        }
    }

    public static void main(String[] args) {
        promise8Fill();
        promise9Take();
        promise14And50To52Least();
        promise15And46Weights();
        promise15OfTheSecondShelf();
        promise29And30And42And68();
        promise47To49Stocks();
        Check.end("ThingsTest");
    }
}
