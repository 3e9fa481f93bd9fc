import java.lang.reflect.InvocationTargetException;
import java.lang.reflect.Method;
import java.util.ArrayList;
import java.util.Arrays;
import java.util.List;

/** What is told changes nothing, and a call that throws changes nothing: the terms that hold for every promise. */
public final class EdgeTellingTest {
    private static final Edge.Maker[] MAKERS = {GlideShelves::new, Edge::rich, Edge::atWindow, Edge::full};

    private EdgeTellingTest() {
    }

    private static Method find(String name) {
        return Arrays.stream(GlideShelves.class.getMethods()).filter(method -> method.getName().equals(name)).findAny()
                .orElseThrow(() -> new IllegalStateException(name));
    }

    /** Each row of numbers from -1 to 12, as many as the call takes. */
    private static List<Object[]> numbersFor(Method method) {
        List<Object[]> rows = List.<Object[]>of(new Object[0]);
        for (int i = 0; i < method.getParameterCount(); i++) {
            List<Object[]> longer = new ArrayList<>();
            for (Object[] row : rows) {
                for (int number = -1; number <= 12; number++) {
                    Object[] next = Arrays.copyOf(row, row.length + 1);
                    next[row.length] = number;
                    longer.add(next);
                }
            }
            rows = longer;
        }
        return rows;
    }

    private static boolean answers(Method method, GlideShelves x, Object[] numbers) {
        try {
            return method.invoke(x, numbers) != null;
        } catch (InvocationTargetException e) {
            return false;
        } catch (IllegalAccessException e) {
            throw new IllegalStateException(e);
        }
    }

    /** Asks each call that the sentence names with all numbers nearby, whether it answers or throws. */
    private static void changeNothing() {
        Edge.is("calls are named", Edge.calls().isEmpty(), false);
        for (String name : Edge.calls()) {
            Method method = find(name);
            List<Object[]> rows = numbersFor(method);
            boolean[] answered = {false};
            for (Edge.Maker maker : MAKERS) {
                Edge.changesNothing(name, maker, x -> {
                    for (Object[] numbers : rows) {
                        answered[0] |= answers(method, x, numbers);
                    }
                });
            }
            Edge.is(name + " answered", answered[0], true);
        }
    }

    private static void tellersChangeNothing() {
        Edge.of(0, "Ahead of the calls `shelves`, `heightOf`, `sideOf`, `slotOf`, `isAtWindow`, `thingsIn`, `weightOf`,"
                + " `fetchesOf`, `atWindow` the interface says: ---- shelves as they are; nothing is changed.");
        changeNothing();
        Edge.of(0, "Ahead of the calls `isFree`, `shelfAt`, `freeBySlots`, `freeByHeights`, `firstPlace`, `longestGap`, `lift`,"
                + " `isKeptPlace`, `wouldPack`, `sideWeight`, `trips`, `tripTicks`, `wasFetch` the interface says:"
                + " ---- slots, the lift; nothing is changed.");
        changeNothing();
        Edge.of(0, "Ahead of the calls `weightOfKind`, `stockByShelves`, `stockByAccount`, `shelvesWith`, `leastOf`,"
                + " `missingOf`, `shortKinds` the interface says: ---- things; nothing is changed.");
        changeNothing();
        Edge.of(0, "Ahead of the calls `orders`, `wanted`, `thingsOf`, `canServe`, `fewestByTrying`, `fewestByGoing`,"
                + " `choiceFor`, `ticksByServing`, `ticksBySums`, `cheapestOrder`, `servable` the interface says:"
                + " ---- orders as they are; nothing is changed.");
        changeNothing();
        Edge.changesNothing("servable of none", Edge::eightOrders, GlideShelves::servable);
        Edge.of(0, "Ahead of the calls `ticks`, `fetches`, `served`, `fetchTicks`, `heaviest`, `mostFetched`, `usedWays`,"
                + " `meanWay`, `meanTicks`, `digest` the interface says: ---- accounts; nothing is changed.");
        changeNothing();
    }

    private static void theBufferStays() {
        Edge.of(0, "A call that throws an exception changes nothing (the buffer stays as it is, too).");
        Edge.Maker wrong = () -> Edge.typed(Edge.ALL_KINDS + ",");
        Edge.refuses(Edge.ARGUMENT, wrong, GlideShelves::accept);
        Edge.refuses(Edge.STATE, () -> {
            GlideShelves x = Edge.eightOrders();
            Check.type(x, Edge.ALL_KINDS);
            return x;
        }, GlideShelves::accept);
        GlideShelves x = wrong.make();
        try {
            x.accept();
        } catch (IllegalArgumentException e) {
            Edge.is("its characters", x.firstError() + " " + x.clearBuffer(), "49 50");
        }
        Edge.refuses(Edge.ARGUMENT, () -> Edge.typed("0*1"), y -> y.append(127));
        Edge.refuses(Edge.INDEX, () -> Edge.typed("0*1"), y -> y.fetch(0));
        Edge.refuses(Edge.STATE, () -> Edge.typed("0*1"), GlideShelves::undo);
    }

    /** Calls for which two or three would be due: each one behind the one that is named first. */
    private static void theFirstNamedIsThrown() {
        Edge.of(0, "If several exceptions apply, the one that is named first in the throws clause is thrown.");
        Edge.refuses(Edge.ARGUMENT, Edge::atWindow, x -> x.addShelf(5));
        Edge.refuses(Edge.INDEX, Edge::atWindow, x -> x.fetch(4));
        Edge.refuses(Edge.INDEX, Edge::rich, x -> x.stowAt(0, 20));
        Edge.refuses(Edge.INDEX, Edge::rich, x -> x.fill(10, 21));
        Edge.refuses(Edge.ARGUMENT, Edge::rich, x -> x.fill(9, 21));
        Edge.refuses(Edge.STATE, Edge::rich, x -> x.fill(9, 20));
        Edge.refuses(Edge.INDEX, Edge::rich, x -> x.take(10, 21));
        Edge.refuses(Edge.ARGUMENT, Edge::rich, x -> x.take(9, 21));
        Edge.refuses(Edge.STATE, Edge::rich, x -> x.take(9, 20));
        Edge.refuses(Edge.ARGUMENT, Edge::eightOrders, GlideShelves::accept);
        Edge.refuses(Edge.INDEX, Edge::atWindow, x -> x.serve(3));
        Edge.refuses(Edge.INDEX, Edge::rich, x -> x.changeLeast(10, 100));
        Edge.refuses(Edge.INDEX, Edge::rich, x -> x.changeWeight(10, 10));
        Edge.refuses(Edge.ARGUMENT, Edge::full, x -> x.firstPlace(5));
        Edge.refuses(Edge.ARGUMENT, () -> Edge.typed("0".repeat(60)), x -> x.append(127));
        Edge.refuses(Edge.ARGUMENT, GlideShelves::new, x -> x.goBack(2));
        Edge.refuses(Edge.INDEX, Edge::atWindow, x -> x.ticksByServing(3));
        Edge.refuses(Edge.INDEX, Edge::atWindow, x -> x.ticksBySums(3));
        Edge.refuses(Edge.INDEX, Edge::atWindow, x -> x.fetchTicks(4));
    }

    public static void main(String[] args) {
        tellersChangeNothing();
        theBufferStays();
        theFirstNamedIsThrown();
        Edge.end("EdgeTellingTest");
    }
}
