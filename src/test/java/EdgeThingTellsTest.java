/** Edges of what is told of things: promises 46 to 52. */
public final class EdgeThingTellsTest {
    private static final int[] NO_KINDS = Edge.outside(0, 9);

    private EdgeThingTellsTest() {
    }

    private static void refusesNoKind(Edge.IntAct call) {
        Edge.refusesEach(Edge.INDEX, GlideShelves::new, NO_KINDS, call);
        Edge.refusesEach(Edge.INDEX, Edge::rich, NO_KINDS, call);
        Edge.refusesEach(Edge.INDEX, Edge::atWindow, NO_KINDS, call);
    }

    private static void promise46() {
        Edge.of(46, "- `kind`: 0 to 9");
        GlideShelves x = new GlideShelves();
        x.changeWeight(0, 9);
        x.changeWeight(9, 8);
        Edge.is("the first and the last", x.weightOfKind(0) + " " + x.weightOfKind(9), "9 8");
        Edge.is("those beside", x.weightOfKind(1) + " " + x.weightOfKind(8), "1 1");
        Edge.of(46, "Throws `IndexOutOfBoundsException` if there is no such kind");
        refusesNoKind(GlideShelves::weightOfKind);
    }

    /** 12 shelves of 150 things each: 20 of the kinds 0 and 9, and of five others, and 10 of the kind 4. */
    private static GlideShelves heavy() {
        GlideShelves x = Edge.twelve();
        for (int shelf = 0; shelf < 12; shelf++) {
            x.fetch(shelf);
            for (int kind : new int[] {0, 9, 1, 8, 2, 7, 3}) {
                x.fill(kind, 20);
            }
            x.fill(4, 10);
            x.stow();
        }
        return x;
    }

    private static void promise47And48() {
        Edge.of(47, "- `kind`: 0 to 9");
        GlideShelves x = heavy();
        Edge.is("the first and the last", x.stockByShelves(0) + " " + x.stockByShelves(9), "240 240");
        Edge.is("others", x.stockByShelves(4) + " " + x.stockByShelves(5), "120 0");
        Edge.of(48, "- `kind`: 0 to 9");
        Edge.is("the first and the last", x.stockByAccount(0) + " " + x.stockByAccount(9), "240 240");
        Edge.is("others", x.stockByAccount(4) + " " + x.stockByAccount(5), "120 0");
        Edge.of(48, "Returns the things, as many as by stockByShelves().");
        Edge.is("none there", new GlideShelves().stockByAccount(0) + " " + new GlideShelves().stockByShelves(0), "0 0");
        x.fetch(11);
        x.take(4, 10);
        Edge.is("all taken out of the one at the window", x.stockByAccount(4) + " " + x.stockByShelves(4), "110 110");
        x.undo();
        Edge.is("undone", x.stockByAccount(4) + " " + x.stockByShelves(4), "120 120");
        x.stow();
        Check.order(x, "4*20,9*20");
        x.serve(0);
        Edge.is("served", x.stockByAccount(4) + " " + x.stockByShelves(4), "100 100");
        Edge.is("served of the last", x.stockByAccount(9) + " " + x.stockByShelves(9), "220 220");
        Edge.of(47, "Throws `IndexOutOfBoundsException` if there is no such kind");
        refusesNoKind(GlideShelves::stockByShelves);
        Edge.of(48, "Throws `IndexOutOfBoundsException` if there is no such kind");
        refusesNoKind(GlideShelves::stockByAccount);
    }

    private static void promise49() {
        Edge.of(49, "- `kind`: 0 to 9");
        GlideShelves x = heavy();
        Edge.is("the first and the last", x.shelvesWith(0) + " " + x.shelvesWith(9), "12 12");
        Edge.is("none", x.shelvesWith(5) + " " + new GlideShelves().shelvesWith(0), "0 0");
        x.fetch(0);
        Edge.is("with the one at the window", x.shelvesWith(4), 12);
        x.take(4, 9);
        Edge.is("one thing is enough", x.shelvesWith(4), 12);
        x.take(4, 1);
        Edge.is("no thing is not", x.shelvesWith(4), 11);
        Edge.of(49, "Throws `IndexOutOfBoundsException` if there is no such kind");
        refusesNoKind(GlideShelves::shelvesWith);
    }

    private static void promise50() {
        Edge.of(50, "- `kind`: 0 to 9");
        GlideShelves x = new GlideShelves();
        x.changeLeast(0, 99);
        x.changeLeast(9, 1);
        Edge.is("the first and the last", x.leastOf(0) + " " + x.leastOf(9), "99 1");
        Edge.is("those beside", x.leastOf(1) + " " + x.leastOf(8), "0 0");
        Edge.of(50, "Throws `IndexOutOfBoundsException` if there is no such kind");
        refusesNoKind(GlideShelves::leastOf);
    }

    /** So many things of the kind, all in one shelf at the window. */
    private static GlideShelves stocked(int kind, int many) {
        GlideShelves x = Check.tower(1);
        x.fetch(0);
        for (int left = many; left > 0; left -= 20) {
            x.fill(kind, Math.min(left, 20));
        }
        return x;
    }

    private static void promise51() {
        Edge.of(51, "- `kind`: 0 to 9");
        GlideShelves x = new GlideShelves();
        x.changeLeast(0, 3);
        x.changeLeast(9, 99);
        Edge.is("the first and the last", x.missingOf(0) + " " + x.missingOf(9), "3 99");
        Edge.is("those beside", x.missingOf(1) + " " + x.missingOf(8), "0 0");
        Edge.of(51, "Returns by how much there are fewer than there should be, 0 if there are as many, or more.");
        int[] leasts = {0, 49, 50, 51, 99};
        int[] dues = {0, 0, 0, 1, 49};
        for (int i = 0; i < leasts.length; i++) {
            GlideShelves y = stocked(6, 50);
            y.changeLeast(6, leasts[i]);
            Edge.is("50 of " + leasts[i], y.missingOf(6), dues[i]);
            y.stow();
            Edge.is("50 of " + leasts[i] + ", stowed", y.missingOf(6), dues[i]);
        }
        GlideShelves z = stocked(6, 99);
        z.changeLeast(6, 99);
        Edge.is("99 of 99", z.missingOf(6), 0);
        z.take(6, 1);
        Edge.is("98 of 99", z.missingOf(6), 1);
        Edge.is("none of none", new GlideShelves().missingOf(0), 0);
        Edge.of(51, "Throws `IndexOutOfBoundsException` if there is no such kind");
        refusesNoKind(GlideShelves::missingOf);
    }

    private static void promise52() {
        Edge.of(52, "Returns the kinds of which things are missing.");
        GlideShelves x = new GlideShelves();
        Edge.is("none", x.shortKinds(), 0);
        int kinds = 0;
        for (int kind = 0; kind < 10; kind++) {
            x.changeLeast(kind, 1);
            kinds = kinds + (1 << kind);
            Edge.is("one more", x.shortKinds(), kinds);
        }
        Edge.is("all", x.shortKinds(), 1023);
        GlideShelves y = stocked(9, 5);
        y.changeLeast(9, 5);
        Edge.is("as many", y.shortKinds(), 0);
        y.changeLeast(9, 6);
        Edge.is("one fewer", y.shortKinds(), 512);
        y.changeLeast(9, 4);
        Edge.is("one more than there should be", y.shortKinds(), 0);
    }

    public static void main(String[] args) {
        promise46();
        promise47And48();
        promise49();
        promise50();
        promise51();
        promise52();
        Edge.end("EdgeThingTellsTest");
    }
}
