import java.util.ArrayDeque;
import java.util.ArrayList;
import java.util.Arrays;
import java.util.Comparator;
import java.util.Deque;
import java.util.List;
import java.util.regex.Matcher;
import java.util.regex.Pattern;

/** The document once more, told as plainly as the Java library lets it, to compare the program with. */
final class Model {
    private static final class Shelf {
        int height;
        int side;
        int slot;
        int fetched;
        int[] things = new int[10];

        Shelf copy() {
            Shelf shelf = new Shelf();
            shelf.height = height;
            shelf.side = side;
            shelf.slot = slot;
            shelf.fetched = fetched;
            shelf.things = things.clone();
            return shelf;
        }

        int way() {
            return slot + (side == 1 ? 2 : 0);
        }
    }

    private static final class State {
        List<Shelf> shelves = new ArrayList<>();
        Shelf window = null;
        int lift = 0;
        boolean kept = true;
        List<int[]> trips = new ArrayList<>();
        int[] weight = {1, 1, 1, 1, 1, 1, 1, 1, 1, 1};
        int[] least = new int[10];
        int[] account = new int[10];
        List<int[]> orders = new ArrayList<>();
        int ticks = 0;
        int fetches = 0;
        int served = 0;

        State copy() {
            State state = new State();
            for (Shelf shelf : shelves) {
                Shelf other = shelf.copy();
                state.shelves.add(other);
                if (shelf == window) {
                    state.window = other;
                }
            }
            state.lift = lift;
            state.kept = kept;
            state.trips.addAll(trips);
            state.weight = weight.clone();
            state.least = least.clone();
            state.account = account.clone();
            for (int[] order : orders) {
                state.orders.add(order.clone());
            }
            state.ticks = ticks;
            state.fetches = fetches;
            state.served = served;
            return state;
        }

        boolean[][] grid() {
            boolean[][] taken = new boolean[2][20];
            for (Shelf shelf : shelves) {
                if (shelf != window) {
                    for (int i = 0; i < shelf.height; i++) {
                        taken[shelf.side][shelf.slot + i] = true;
                    }
                }
            }
            return taken;
        }

        int weigh(Shelf shelf) {
            int sum = 0;
            for (int kind = 0; kind < 10; kind++) {
                sum += shelf.things[kind] * weight[kind];
            }
            return sum;
        }

        void trip(int spent, boolean isFetch) {
            trips.add(0, new int[] {spent, isFetch ? 1 : 0});
            if (trips.size() > 8) {
                trips.remove(8);
            }
            ticks += spent;
        }

        int bring(Shelf shelf) {
            int spent = Math.abs(lift - shelf.slot) + shelf.way();
            lift = 0;
            window = shelf;
            shelf.fetched++;
            fetches++;
            trip(spent, true);
            return spent;
        }

        int put(int place) {
            window.side = place / 20;
            window.slot = place % 20;
            lift = window.slot;
            int spent = window.way();
            window = null;
            trip(spent, false);
            return spent;
        }

        int putByRule() {
            return put(kept ? 20 * window.side + window.slot : place(grid(), window.height));
        }

        int choice(int order) {
            int best = -1;
            for (int set = 0; set < 1 << shelves.size(); set++) {
                if (best >= 0 && Integer.bitCount(set) >= Integer.bitCount(best)) {
                    continue;
                }
                int[] left = orders.get(order).clone();
                for (int shelf = 0; shelf < shelves.size(); shelf++) {
                    for (int kind = 0; (set >> shelf & 1) == 1 && kind < 10; kind++) {
                        left[kind] -= shelves.get(shelf).things[kind];
                    }
                }
                if (Arrays.stream(left).allMatch(l -> l <= 0)) {
                    best = set;
                }
            }
            return best;
        }

        boolean canServe(int order) {
            for (int kind = 0; kind < 10; kind++) {
                int sum = 0;
                for (Shelf shelf : shelves) {
                    sum += shelf.things[kind];
                }
                if (sum < orders.get(order)[kind]) {
                    return false;
                }
            }
            return true;
        }

        int serve(int order) {
            int spent = 0;
            int set = choice(order);
            int[] left = orders.get(order);
            for (int number = 0; number < shelves.size(); number++) {
                if ((set >> number & 1) == 1) {
                    Shelf shelf = shelves.get(number);
                    spent += bring(shelf);
                    for (int kind = 0; kind < 10; kind++) {
                        for (; left[kind] > 0 && shelf.things[kind] > 0; left[kind]--) {
                            shelf.things[kind]--;
                            account[kind]--;
                        }
                    }
                    spent += putByRule();
                }
            }
            orders.remove(order);
            served++;
            return spent;
        }

        int serveAll() {
            int spent = 0;
            for (int order = 0; order < orders.size();) {
                if (canServe(order)) {
                    spent += serve(order);
                    order = 0;
                } else {
                    order++;
                }
            }
            return spent;
        }
    }

    private static final Pattern ORDER = Pattern.compile(pattern(0));

    private State s = new State();
    private final Deque<State> saved = new ArrayDeque<>();
    private final State[] snapshots = new State[2];
    private String buffer = "";

    private static String pattern(int kind) {
        String all = kind + "\\*(?:1[0-9]|20|[1-9])";
        StringBuilder later = new StringBuilder();
        for (int next = kind + 1; next < 10; next++) {
            later.append(next == kind + 1 ? "" : "|").append(pattern(next));
        }
        String here = later.length() == 0 ? all : all + "(?:,(?:" + later + "))?";
        return kind > 0 ? here : "(?:" + here + "|" + later + ")";
    }

    private static int place(boolean[][] taken, int height) {
        for (int slot = 0; slot < 20; slot++) {
            for (int side = 0; side < 2; side++) {
                if (fits(taken, side, slot, height)) {
                    return 20 * side + slot;
                }
            }
        }
        return -1;
    }

    private static boolean fits(boolean[][] taken, int side, int slot, int height) {
        for (int i = slot; i < slot + height; i++) {
            if (i >= 20 || taken[side][i]) {
                return false;
            }
        }
        return true;
    }

    private static void index(boolean isRight) {
        if (!isRight) {
            throw new IndexOutOfBoundsException();
        }
    }

    private static void argument(boolean isRight) {
        if (!isRight) {
            throw new IllegalArgumentException();
        }
    }

    private static void state(boolean isRight) {
        if (!isRight) {
            throw new IllegalStateException();
        }
    }

    private static boolean isIn(int number, int least, int most) {
        return least <= number && number <= most;
    }

    private Shelf shelf(int shelf) {
        index(isIn(shelf, 0, s.shelves.size() - 1));
        return s.shelves.get(shelf);
    }

    private int[] order(int order) {
        index(isIn(order, 0, s.orders.size() - 1));
        return s.orders.get(order);
    }

    private static void kind(int kind) {
        index(isIn(kind, 0, 9));
    }

    private static void slot(int side, int slot) {
        index(isIn(side, 0, 1) && isIn(slot, 0, 19));
    }

    private void save() {
        saved.addLast(s.copy());
        if (saved.size() > 6) {
            saved.removeFirst();
        }
    }

    public int addShelf(int height) {
        argument(isIn(height, 1, 4));
        int place = place(s.grid(), height);
        state(s.shelves.size() < 12 && s.window == null && place >= 0);
        save();
        Shelf shelf = new Shelf();
        shelf.height = height;
        shelf.side = place / 20;
        shelf.slot = place % 20;
        s.shelves.add(shelf);
        return s.shelves.size() - 1;
    }

    public int scrap(int shelf) {
        Shelf old = shelf(shelf);
        state(old != s.window && Arrays.stream(old.things).sum() == 0);
        save();
        s.shelves.remove(shelf);
        return old.height;
    }

    public int fetch(int shelf) {
        shelf(shelf);
        state(s.window == null);
        save();
        return s.bring(shelf(shelf));
    }

    public int stow() {
        state(s.window != null);
        save();
        return s.putByRule();
    }

    public int stowAt(int side, int slot) {
        slot(side, slot);
        state(s.window != null && fits(s.grid(), side, slot, s.window.height));
        save();
        return s.put(20 * side + slot);
    }

    private int[] packedPlaces() {
        state(s.window == null);
        List<Shelf> sorted = new ArrayList<>(s.shelves);
        sorted.sort(Comparator.comparingInt(shelf -> -shelf.fetched));
        boolean[][] taken = new boolean[2][20];
        int[] places = new int[s.shelves.size()];
        for (Shelf shelf : sorted) {
            int place = place(taken, shelf.height);
            state(place >= 0);
            places[s.shelves.indexOf(shelf)] = place;
            Arrays.fill(taken[place / 20], place % 20, place % 20 + shelf.height, true);
        }
        return places;
    }

    public int wouldPack() {
        int[] places = packedPlaces();
        int moved = 0;
        for (int i = 0; i < places.length; i++) {
            moved += places[i] == 20 * shelf(i).side + shelf(i).slot ? 0 : 1;
        }
        return moved;
    }

    public int pack() {
        int moved = wouldPack();
        int[] places = packedPlaces();
        save();
        for (int i = 0; i < places.length; i++) {
            shelf(i).side = places[i] / 20;
            shelf(i).slot = places[i] % 20;
        }
        return moved;
    }

    public int fill(int kind, int many) {
        kind(kind);
        argument(isIn(many, 1, 20));
        state(s.window != null && s.weigh(s.window) + many * s.weight[kind] <= 150);
        save();
        s.account[kind] += many;
        return s.window.things[kind] += many;
    }

    public int take(int kind, int many) {
        kind(kind);
        argument(isIn(many, 1, 20));
        state(s.window != null && s.window.things[kind] >= many);
        save();
        s.account[kind] -= many;
        return s.window.things[kind] -= many;
    }

    public int accept() {
        argument(!buffer.isEmpty() && ORDER.matcher(buffer).matches());
        state(s.orders.size() < 8);
        save();
        int[] order = new int[10];
        for (String part : buffer.split(",")) {
            String[] sides = part.split("\\*");
            order[Integer.parseInt(sides[0])] = Integer.parseInt(sides[1]);
        }
        s.orders.add(order);
        buffer = "";
        return s.orders.size() - 1;
    }

    public int cancel(int order) {
        int things = thingsOf(order);
        save();
        s.orders.remove(order);
        return things;
    }

    public int serve(int order) {
        order(order);
        state(s.window == null && s.canServe(order));
        save();
        return s.serve(order);
    }

    public int serveAll() {
        state(s.window == null);
        save();
        return s.serveAll();
    }

    public int changeLeast(int kind, int many) {
        kind(kind);
        argument(isIn(many, 0, 99));
        save();
        int before = s.least[kind];
        s.least[kind] = many;
        return before;
    }

    public int changeWeight(int kind, int weight) {
        kind(kind);
        argument(isIn(weight, 1, 9));
        State other = s.copy();
        other.weight[kind] = weight;
        for (Shelf shelf : other.shelves) {
            state(other.weigh(shelf) <= 150);
        }
        save();
        int before = s.weight[kind];
        s.weight[kind] = weight;
        return before;
    }

    public boolean turnRule() {
        save();
        s.kept = !s.kept;
        return s.kept;
    }

    public int append(int code) {
        argument(isIn(code, 33, 126));
        state(buffer.length() < 60);
        buffer += (char) code;
        return buffer.length();
    }

    public int clearBuffer() {
        int length = buffer.length();
        buffer = "";
        return length;
    }

    public int firstError() {
        for (int length = 1; length <= buffer.length(); length++) {
            Matcher matcher = ORDER.matcher(buffer.substring(0, length));
            if (!matcher.matches() && !matcher.hitEnd()) {
                return length - 1;
            }
        }
        return buffer.length();
    }

    public void keep(int slot) {
        argument(isIn(slot, 0, 1));
        snapshots[slot] = s.copy();
    }

    public void goBack(int slot) {
        argument(isIn(slot, 0, 1));
        state(snapshots[slot] != null);
        save();
        s = snapshots[slot].copy();
    }

    public void undo() {
        state(!saved.isEmpty());
        s = saved.removeLast();
    }

    public int savedStates() {
        return saved.size();
    }

    public int shelves() {
        return s.shelves.size();
    }

    public int heightOf(int shelf) {
        return shelf(shelf).height;
    }

    public int sideOf(int shelf) {
        return shelf(shelf).side;
    }

    public int slotOf(int shelf) {
        return shelf(shelf).slot;
    }

    public boolean isAtWindow(int shelf) {
        return shelf(shelf) == s.window;
    }

    public int thingsIn(int shelf, int kind) {
        kind(kind);
        return shelf(shelf).things[kind];
    }

    public int weightOf(int shelf) {
        return s.weigh(shelf(shelf));
    }

    public int fetchesOf(int shelf) {
        return shelf(shelf).fetched;
    }

    public int atWindow() {
        state(s.window != null);
        return s.shelves.indexOf(s.window);
    }

    public boolean isFree(int side, int slot) {
        slot(side, slot);
        return !s.grid()[side][slot];
    }

    public int shelfAt(int side, int slot) {
        state(!isFree(side, slot));
        for (int i = 0; i < s.shelves.size(); i++) {
            Shelf shelf = shelf(i);
            if (shelf != s.window && shelf.side == side && isIn(slot, shelf.slot, shelf.slot + shelf.height - 1)) {
                return i;
            }
        }
        return -1;
    }

    public int freeBySlots() {
        int free = 0;
        for (int slot = 0; slot < 40; slot++) {
            free += isFree(slot / 20, slot % 20) ? 1 : 0;
        }
        return free;
    }

    public int freeByHeights() {
        return freeBySlots();
    }

    public int firstPlace(int height) {
        argument(isIn(height, 1, 4));
        int place = place(s.grid(), height);
        state(place >= 0);
        return place;
    }

    public int longestGap(int side) {
        slot(side, 0);
        for (int length = 20; length > 0; length--) {
            for (int slot = 0; slot < 20; slot++) {
                if (fits(s.grid(), side, slot, length)) {
                    return length;
                }
            }
        }
        return 0;
    }

    public int lift() {
        return s.lift;
    }

    public boolean isKeptPlace() {
        return s.kept;
    }

    public int sideWeight(int side) {
        slot(side, 0);
        int sum = 0;
        for (Shelf shelf : s.shelves) {
            sum += shelf.side == side && shelf != s.window ? s.weigh(shelf) : 0;
        }
        return sum;
    }

    public int trips() {
        return s.trips.size();
    }

    public int tripTicks(int ago) {
        index(isIn(ago, 0, s.trips.size() - 1));
        return s.trips.get(ago)[0];
    }

    public boolean wasFetch(int ago) {
        index(isIn(ago, 0, s.trips.size() - 1));
        return s.trips.get(ago)[1] == 1;
    }

    public int weightOfKind(int kind) {
        kind(kind);
        return s.weight[kind];
    }

    public int stockByShelves(int kind) {
        kind(kind);
        return s.shelves.stream().mapToInt(shelf -> shelf.things[kind]).sum();
    }

    public int stockByAccount(int kind) {
        kind(kind);
        return s.account[kind];
    }

    public int shelvesWith(int kind) {
        kind(kind);
        return (int) s.shelves.stream().filter(shelf -> shelf.things[kind] > 0).count();
    }

    public int leastOf(int kind) {
        kind(kind);
        return s.least[kind];
    }

    public int missingOf(int kind) {
        return Math.max(leastOf(kind) - stockByShelves(kind), 0);
    }

    public int shortKinds() {
        int kinds = 0;
        for (int kind = 9; kind >= 0; kind--) {
            kinds = kinds * 2 + (missingOf(kind) > 0 ? 1 : 0);
        }
        return kinds;
    }

    public int orders() {
        return s.orders.size();
    }

    public int wanted(int order, int kind) {
        kind(kind);
        return order(order)[kind];
    }

    public int thingsOf(int order) {
        return Arrays.stream(order(order)).sum();
    }

    public boolean canServe(int order) {
        order(order);
        return s.canServe(order);
    }

    public int fewestByTrying(int order) {
        return Integer.bitCount(choiceFor(order));
    }

    public int fewestByGoing(int order) {
        return Integer.bitCount(choiceFor(order));
    }

    public int choiceFor(int order) {
        state(canServe(order));
        return s.choice(order);
    }

    public int ticksByServing(int order) {
        order(order);
        state(s.window == null && canServe(order));
        return s.copy().serve(order);
    }

    public int ticksBySums(int order) {
        order(order);
        state(s.kept);
        return ticksByServing(order);
    }

    public int cheapestOrder() {
        state(s.window == null);
        int cheapest = -1;
        int fewest = Integer.MAX_VALUE;
        for (int order = 0; order < s.orders.size(); order++) {
            if (canServe(order) && ticksByServing(order) < fewest) {
                cheapest = order;
                fewest = ticksByServing(order);
            }
        }
        state(cheapest >= 0);
        return cheapest;
    }

    public int servable() {
        state(s.window == null);
        State other = s.copy();
        other.serveAll();
        return s.orders.size() - other.orders.size();
    }

    public int ticks() {
        return s.ticks;
    }

    public int fetches() {
        return s.fetches;
    }

    public int served() {
        return s.served;
    }

    public int fetchTicks(int shelf) {
        shelf(shelf);
        state(s.window == null);
        State other = s.copy();
        return other.bring(other.shelves.get(shelf));
    }

    private int first(Comparator<Shelf> order) {
        state(!s.shelves.isEmpty());
        List<Shelf> sorted = new ArrayList<>(s.shelves);
        sorted.sort(order);
        return s.shelves.indexOf(sorted.get(0));
    }

    public int heaviest() {
        return first(Comparator.comparingInt(shelf -> -s.weigh(shelf)));
    }

    public int mostFetched() {
        return first(Comparator.comparingInt(shelf -> -shelf.fetched));
    }

    public int usedWays() {
        return s.shelves.stream().mapToInt(shelf -> shelf.way() * shelf.fetched).sum();
    }

    public double meanWay() {
        int uses = s.shelves.stream().mapToInt(shelf -> shelf.fetched).sum();
        return uses == 0 ? 0.0 : (double) usedWays() / uses;
    }

    public double meanTicks() {
        return s.fetches == 0 ? 0.0 : (double) s.ticks / s.fetches;
    }

    private static int bit(boolean value) {
        return value ? 1 : 0;
    }

    private void addSlots(List<Number> values) {
        for (int slot = 0; slot < 40; slot++) {
            values.add(isFree(slot / 20, slot % 20) ? 0 : shelfAt(slot / 20, slot % 20) + 1);
        }
        values.addAll(List.of(freeBySlots(), freeByHeights()));
        for (int height = 1; height <= 4; height++) {
            values.add(place(s.grid(), height) + 1);
        }
        values.addAll(List.of(longestGap(0), longestGap(1), lift(), bit(s.kept)));
    }

    private void addOrders(List<Number> values) {
        values.add(orders());
        for (int order = 0; order < orders(); order++) {
            for (int kind = 0; kind < 10; kind++) {
                values.add(wanted(order, kind));
            }
            values.add(bit(canServe(order)));
            if (canServe(order)) {
                int choice = choiceFor(order);
                values.addAll(List.of(Integer.bitCount(choice), Integer.bitCount(choice), choice));
            }
        }
        try {
            values.add(cheapestOrder() + 1);
        } catch (IllegalStateException e) {
            values.add(0);
        }
    }

    public long digest() {
        List<Number> values = new ArrayList<>();
        values.add(shelves());
        for (int shelf = 0; shelf < shelves(); shelf++) {
            values.addAll(List.of(heightOf(shelf), sideOf(shelf), slotOf(shelf), bit(isAtWindow(shelf))));
            for (int kind = 0; kind < 10; kind++) {
                values.add(thingsIn(shelf, kind));
            }
            values.addAll(List.of(weightOf(shelf), fetchesOf(shelf)));
        }
        addSlots(values);
        for (int kind = 0; kind < 10; kind++) {
            values.addAll(List.of(weightOfKind(kind), stockByShelves(kind), stockByAccount(kind),
                    shelvesWith(kind), leastOf(kind), missingOf(kind)));
        }
        values.addAll(List.of(shortKinds(), sideWeight(0), sideWeight(1), trips()));
        for (int ago = 0; ago < trips(); ago++) {
            values.addAll(List.of(tripTicks(ago), bit(wasFetch(ago))));
        }
        addOrders(values);
        boolean isAny = shelves() > 0;
        values.addAll(List.of(ticks(), fetches(), served(), isAny ? heaviest() + 1 : 0,
                isAny ? mostFetched() + 1 : 0, usedWays(), savedStates(),
                Double.doubleToLongBits(meanTicks()), Double.doubleToLongBits(meanWay()),
                bit(snapshots[0] != null), bit(snapshots[1] != null), buffer.length()));
        for (char code : buffer.toCharArray()) {
            values.add((int) code);
        }
        long hash = 4349;
        for (Number value : values) {
            hash = 31 * hash + value.longValue();
        }
        return hash;
    }
}
