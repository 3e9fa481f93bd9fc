/**
 * A tower of shelves that a lift brings to a window, with the things in them, the orders for these
 * things, snapshots and undo. What each call promises stands in the document.
 */
public final class GlideShelves {
    private static final int SIDES = 2;
    private static final int SLOTS = 20;
    private static final int PLACES = SIDES * SLOTS;
    private static final int BEHIND_WAY = 2;
    private static final int MOST_SHELVES = 12;
    private static final int MOST_HEIGHT = 4;
    private static final int MOST_SHELF_WEIGHT = 150;
    private static final int KINDS = 10;
    private static final int MOST_KIND_WEIGHT = 9;
    private static final int MOST_MANY = 20;
    private static final int MOST_LEAST = 99;
    private static final int MOST_ORDERS = 8;
    private static final int MOST_TRIPS = 8;
    private static final int MOST_CODES = 60;
    private static final int FIRST_CODE = 33;
    private static final int LAST_CODE = 126;
    private static final int SNAPSHOTS = 2;
    private static final int MOST_SAVED = 6;
    private static final long FIRST_HASH = 4349L;
    private static final int NONE = -1;

    private final State now = new State();
    // What is told by doing is done here, so that nothing is made anew in a call.
    private final State copy = new State();
    private final History history = new History();
    private final OrderText buffer = new OrderText();
    private final int[] packedPlaces = new int[MOST_SHELVES];
    private final int[] lacking = new int[KINDS];

    public GlideShelves() {
    }

    // ---- shelves

    public int addShelf(int height) throws IllegalArgumentException, IllegalStateException {
        requireHeight(height);
        if (now.tower.count >= MOST_SHELVES) {
            throw new IllegalStateException("there are 12 shelves");
        }
        requireEmptyWindow();
        int place = now.tower.firstFree(height);
        if (place == NONE) {
            throw new IllegalStateException("no place fits");
        }
        history.save(now);
        return now.tower.addAt(place, height);
    }

    public int scrap(int shelf) throws IndexOutOfBoundsException, IllegalStateException {
        requireShelf(shelf);
        if (shelf == now.tower.window) {
            throw new IllegalStateException("the shelf is at the window");
        }
        if (!now.tower.isEmpty(shelf)) {
            throw new IllegalStateException("the shelf is not empty");
        }
        history.save(now);
        int height = now.tower.heights[shelf];
        now.tower.remove(shelf);
        return height;
    }

    public int fetch(int shelf) throws IndexOutOfBoundsException, IllegalStateException {
        requireShelf(shelf);
        requireEmptyWindow();
        history.save(now);
        return now.bring(shelf);
    }

    public int stow() throws IllegalStateException {
        requireShelfAtWindow();
        history.save(now);
        return now.putBack();
    }

    public int stowAt(int side, int slot) throws IndexOutOfBoundsException, IllegalStateException {
        requireSlot(side, slot);
        requireShelfAtWindow();
        Tower tower = now.tower;
        if (!Tower.fits(tower.takenOn(side), slot, tower.heights[tower.window])) {
            throw new IllegalStateException("the place does not fit");
        }
        history.save(now);
        return now.putAt(side * SLOTS + slot);
    }

    public int pack() throws IllegalStateException {
        requirePackable();
        history.save(now);
        int moved = now.tower.countMoved(packedPlaces);
        now.tower.moveTo(packedPlaces);
        return moved;
    }

    public int fill(int kind, int many)
            throws IndexOutOfBoundsException, IllegalArgumentException, IllegalStateException {
        requireKind(kind);
        requireMany(many);
        requireShelfAtWindow();
        int shelf = now.tower.window;
        if (now.weighShelf(shelf) + many * now.goods.weights[kind] > MOST_SHELF_WEIGHT) {
            throw new IllegalStateException("the shelf would be too heavy");
        }
        history.save(now);
        now.goods.filledIn[kind] += many;
        return now.tower.change(shelf, kind, many);
    }

    public int take(int kind, int many)
            throws IndexOutOfBoundsException, IllegalArgumentException, IllegalStateException {
        requireKind(kind);
        requireMany(many);
        requireShelfAtWindow();
        int shelf = now.tower.window;
        if (now.tower.countIn(shelf, kind) < many) {
            throw new IllegalStateException("the shelf has not so many");
        }
        history.save(now);
        now.goods.takenOut[kind] += many;
        return now.tower.change(shelf, kind, -many);
    }

    // ---- orders, settings

    public int accept() throws IllegalArgumentException, IllegalStateException {
        if (!buffer.isOrder()) {
            throw new IllegalArgumentException("the buffer does not tell an order");
        }
        if (now.book.count >= MOST_ORDERS) {
            throw new IllegalStateException("there are 8 orders");
        }
        history.save(now);
        int order = now.book.add(buffer.reader.numbers);
        buffer.length = 0;
        return order;
    }

    public int cancel(int order) throws IndexOutOfBoundsException {
        requireOrder(order);
        history.save(now);
        int things = now.book.sumOf(order);
        now.book.remove(order);
        return things;
    }

    public int serve(int order) throws IndexOutOfBoundsException, IllegalStateException {
        requireOrder(order);
        requireEmptyWindow();
        requireServable(order);
        history.save(now);
        return now.serveOne(order);
    }

    public int serveAll() throws IllegalStateException {
        requireEmptyWindow();
        history.save(now);
        return now.serveEach();
    }

    public int changeLeast(int kind, int many)
            throws IndexOutOfBoundsException, IllegalArgumentException {
        requireKind(kind);
        if (many < 0 || many > MOST_LEAST) {
            throw new IllegalArgumentException("the number is not 0 to 99");
        }
        history.save(now);
        int before = now.goods.leasts[kind];
        now.goods.leasts[kind] = many;
        return before;
    }

    public int changeWeight(int kind, int weight)
            throws IndexOutOfBoundsException, IllegalArgumentException, IllegalStateException {
        requireKind(kind);
        if (weight < 1 || weight > MOST_KIND_WEIGHT) {
            throw new IllegalArgumentException("the weight is not 1 to 9");
        }
        if (now.wouldBeTooHeavy(kind, weight)) {
            throw new IllegalStateException("some shelf would be too heavy");
        }
        history.save(now);
        int before = now.goods.weights[kind];
        now.goods.weights[kind] = weight;
        return before;
    }

    public boolean turnRule() {
        history.save(now);
        now.lift.keepsPlaces = !now.lift.keepsPlaces;
        return now.lift.keepsPlaces;
    }

    // ---- texts

    public int append(int code) throws IllegalArgumentException, IllegalStateException {
        if (code < FIRST_CODE || code > LAST_CODE) {
            throw new IllegalArgumentException("the code is not 33 to 126");
        }
        if (buffer.length >= MOST_CODES) {
            throw new IllegalStateException("the buffer has 60 characters");
        }
        buffer.codes[buffer.length] = code;
        buffer.length++;
        return buffer.length;
    }

    public int clearBuffer() {
        int length = buffer.length;
        buffer.length = 0;
        return length;
    }

    public int firstError() {
        return buffer.readAll();
    }

    // ---- snapshots, undo

    public void keep(int slot) throws IllegalArgumentException {
        requireSnapshotSlot(slot);
        history.takeSnapshot(slot, now);
    }

    public void goBack(int slot) throws IllegalArgumentException, IllegalStateException {
        requireSnapshotSlot(slot);
        State snapshot = history.snapshots[slot];
        if (snapshot == null) {
            throw new IllegalStateException("there is no snapshot");
        }
        history.save(now);
        now.copyFrom(snapshot);
    }

    public void undo() throws IllegalStateException {
        if (!history.restoreLatest(now)) {
            throw new IllegalStateException("no state is saved");
        }
    }

    public int savedStates() {
        return history.count;
    }

    // ---- shelves as they are; nothing is changed

    public int shelves() {
        return now.tower.count;
    }

    public int heightOf(int shelf) throws IndexOutOfBoundsException {
        requireShelf(shelf);
        return now.tower.heights[shelf];
    }

    public int sideOf(int shelf) throws IndexOutOfBoundsException {
        requireShelf(shelf);
        return now.tower.places[shelf] / SLOTS;
    }

    public int slotOf(int shelf) throws IndexOutOfBoundsException {
        requireShelf(shelf);
        return now.tower.places[shelf] % SLOTS;
    }

    public boolean isAtWindow(int shelf) throws IndexOutOfBoundsException {
        requireShelf(shelf);
        return shelf == now.tower.window;
    }

    public int thingsIn(int shelf, int kind) throws IndexOutOfBoundsException {
        requireShelf(shelf);
        requireKind(kind);
        return now.tower.countIn(shelf, kind);
    }

    public int weightOf(int shelf) throws IndexOutOfBoundsException {
        requireShelf(shelf);
        return now.weighShelf(shelf);
    }

    public int fetchesOf(int shelf) throws IndexOutOfBoundsException {
        requireShelf(shelf);
        return now.tower.uses[shelf];
    }

    public int atWindow() throws IllegalStateException {
        requireShelfAtWindow();
        return now.tower.window;
    }

    // ---- slots, the lift; nothing is changed

    public boolean isFree(int side, int slot) throws IndexOutOfBoundsException {
        requireSlot(side, slot);
        return now.tower.holderOf(side * SLOTS + slot) == NONE;
    }

    public int shelfAt(int side, int slot) throws IndexOutOfBoundsException, IllegalStateException {
        requireSlot(side, slot);
        int shelf = now.tower.holderOf(side * SLOTS + slot);
        if (shelf == NONE) {
            throw new IllegalStateException("the slot is free");
        }
        return shelf;
    }

    public int freeBySlots() {
        return now.tower.countFree(0) + now.tower.countFree(1);
    }

    public int freeByHeights() {
        return PLACES - now.tower.sumOfHeights();
    }

    public int firstPlace(int height) throws IllegalArgumentException, IllegalStateException {
        requireHeight(height);
        int place = now.tower.firstFree(height);
        if (place == NONE) {
            throw new IllegalStateException("no place fits");
        }
        return place;
    }

    public int longestGap(int side) throws IndexOutOfBoundsException {
        requireSide(side);
        return now.tower.longestFree(side);
    }

    public int lift() {
        return now.lift.slot;
    }

    public boolean isKeptPlace() {
        return now.lift.keepsPlaces;
    }

    public int wouldPack() throws IllegalStateException {
        requirePackable();
        return now.tower.countMoved(packedPlaces);
    }

    public int sideWeight(int side) throws IndexOutOfBoundsException {
        requireSide(side);
        return now.weighSide(side);
    }

    public int trips() {
        return now.lift.remembered;
    }

    public int tripTicks(int ago) throws IndexOutOfBoundsException {
        requireTrip(ago);
        return now.lift.tripSums[ago];
    }

    public boolean wasFetch(int ago) throws IndexOutOfBoundsException {
        requireTrip(ago);
        return now.lift.tripBrought[ago];
    }

    // ---- things; nothing is changed

    public int weightOfKind(int kind) throws IndexOutOfBoundsException {
        requireKind(kind);
        return now.goods.weights[kind];
    }

    public int stockByShelves(int kind) throws IndexOutOfBoundsException {
        requireKind(kind);
        return now.tower.stockOf(kind);
    }

    public int stockByAccount(int kind) throws IndexOutOfBoundsException {
        requireKind(kind);
        return now.goods.filledIn[kind] - now.goods.takenOut[kind];
    }

    public int shelvesWith(int kind) throws IndexOutOfBoundsException {
        requireKind(kind);
        return now.tower.countHolding(kind);
    }

    public int leastOf(int kind) throws IndexOutOfBoundsException {
        requireKind(kind);
        return now.goods.leasts[kind];
    }

    public int missingOf(int kind) throws IndexOutOfBoundsException {
        requireKind(kind);
        return now.missing(kind);
    }

    public int shortKinds() {
        int kinds = 0;
        for (int kind = 0; kind < KINDS; kind++) {
            if (now.missing(kind) > 0) {
                kinds |= 1 << kind;
            }
        }
        return kinds;
    }

    // ---- orders as they are; nothing is changed

    public int orders() {
        return now.book.count;
    }

    public int wanted(int order, int kind) throws IndexOutOfBoundsException {
        requireOrder(order);
        requireKind(kind);
        return now.book.wantedOf(order, kind);
    }

    public int thingsOf(int order) throws IndexOutOfBoundsException {
        requireOrder(order);
        return now.book.sumOf(order);
    }

    public boolean canServe(int order) throws IndexOutOfBoundsException {
        requireOrder(order);
        return now.isServable(order);
    }

    public int fewestByTrying(int order) throws IndexOutOfBoundsException, IllegalStateException {
        requireOrder(order);
        requireServable(order);
        return Integer.bitCount(now.choice(order));
    }

    public int fewestByGoing(int order) throws IndexOutOfBoundsException, IllegalStateException {
        requireOrder(order);
        requireServable(order);
        return fewestFound(order);
    }

    public int choiceFor(int order) throws IndexOutOfBoundsException, IllegalStateException {
        requireOrder(order);
        requireServable(order);
        return now.choice(order);
    }

    public int ticksByServing(int order) throws IndexOutOfBoundsException, IllegalStateException {
        requireOrder(order);
        requireEmptyWindow();
        requireServable(order);
        copy.copyFrom(now);
        return copy.serveOne(order);
    }

    public int ticksBySums(int order) throws IndexOutOfBoundsException, IllegalStateException {
        requireOrder(order);
        requireEmptyWindow();
        requireServable(order);
        if (!now.lift.keepsPlaces) {
            throw new IllegalStateException("shelves are stowed at the first place that fits");
        }
        return now.sumTicks(now.choice(order));
    }

    public int cheapestOrder() throws IllegalStateException {
        requireEmptyWindow();
        int order = findCheapest();
        if (order == NONE) {
            throw new IllegalStateException("no order can be served");
        }
        return order;
    }

    public int servable() throws IllegalStateException {
        requireEmptyWindow();
        copy.copyFrom(now);
        copy.serveEach();
        return copy.servedOrders - now.servedOrders;
    }

    // ---- accounts; nothing is changed

    public int ticks() {
        return now.lift.allTicks;
    }

    public int fetches() {
        return now.lift.allFetches;
    }

    public int served() {
        return now.servedOrders;
    }

    public int fetchTicks(int shelf) throws IndexOutOfBoundsException, IllegalStateException {
        requireShelf(shelf);
        requireEmptyWindow();
        return now.ticksToBring(shelf);
    }

    public int heaviest() throws IllegalStateException {
        requireSomeShelf();
        return now.findHeaviest();
    }

    public int mostFetched() throws IllegalStateException {
        requireSomeShelf();
        return now.tower.mostUsed(0);
    }

    public int usedWays() {
        return now.tower.sumOfUsedWays();
    }

    public double meanWay() {
        return meanOf(now.tower.sumOfUsedWays(), now.tower.sumOfUses());
    }

    public double meanTicks() {
        return meanOf(now.lift.allTicks, now.lift.allFetches);
    }

    public long digest() {
        long hash = hashShelves(FIRST_HASH);
        hash = hashSlots(hash);
        hash = hashKinds(hash);
        hash = hashTrips(hash);
        hash = hashOrders(hash);
        hash = hashOn(hash, now.tower.window == NONE ? findCheapest() + 1 : 0);
        hash = hashAccounts(hash);
        return hashTexts(hash);
    }

    // ---- what calls require

    private void requireHeight(int height) {
        if (height < 1 || height > MOST_HEIGHT) {
            throw new IllegalArgumentException("the height is not 1 to 4");
        }
    }

    private void requireMany(int many) {
        if (many < 1 || many > MOST_MANY) {
            throw new IllegalArgumentException("the number is not 1 to 20");
        }
    }

    private void requireSnapshotSlot(int slot) {
        if (slot < 0 || slot >= SNAPSHOTS) {
            throw new IllegalArgumentException("the slot is not 0 or 1");
        }
    }

    private void requireShelf(int shelf) {
        if (shelf < 0 || shelf >= now.tower.count) {
            throw new IndexOutOfBoundsException("there is no such shelf");
        }
    }

    private void requireSide(int side) {
        if (side < 0 || side >= SIDES) {
            throw new IndexOutOfBoundsException("there is no such side");
        }
    }

    private void requireSlot(int side, int slot) {
        requireSide(side);
        if (slot < 0 || slot >= SLOTS) {
            throw new IndexOutOfBoundsException("there is no such slot");
        }
    }

    private void requireKind(int kind) {
        if (kind < 0 || kind >= KINDS) {
            throw new IndexOutOfBoundsException("there is no such kind");
        }
    }

    private void requireOrder(int order) {
        if (order < 0 || order >= now.book.count) {
            throw new IndexOutOfBoundsException("there is no such order");
        }
    }

    private void requireTrip(int ago) {
        if (ago < 0 || ago >= now.lift.remembered) {
            throw new IndexOutOfBoundsException("no such trip is remembered");
        }
    }

    private void requireEmptyWindow() {
        if (now.tower.window != NONE) {
            throw new IllegalStateException("a shelf is at the window");
        }
    }

    private void requireShelfAtWindow() {
        if (now.tower.window < 0 || now.tower.window >= now.tower.count) {
            throw new IllegalStateException("no shelf is at the window");
        }
    }

    private void requireSomeShelf() {
        if (now.tower.count == 0) {
            throw new IllegalStateException("there is no shelf");
        }
    }

    private void requireServable(int order) {
        if (!now.isServable(order)) {
            throw new IllegalStateException("no shelves can serve the order");
        }
    }

    private void requirePackable() {
        requireEmptyWindow();
        if (!now.tower.findPacked(packedPlaces)) {
            throw new IllegalStateException("some shelf would not fit");
        }
    }

    // ---- what is told by going, by doing and as a mean

    private int fewestFound(int order) {
        for (int kind = 0; kind < KINDS; kind++) {
            lacking[kind] = now.book.wantedOf(order, kind);
        }
        return fewestFrom(now.tower, lacking, 0, 0, MOST_SHELVES + 1);
    }

    /** The shelf is the depth; the fewest found so far bounds how many may be taken. */
    private static int fewestFrom(Tower tower, int[] lacking, int shelf, int taken, int fewest) {
        if (!isLacking(lacking)) {
            return taken;
        }
        if (shelf >= tower.count || shelf >= MOST_SHELVES || taken + 1 >= fewest) {
            return fewest;
        }
        int found = fewest;
        if (tower.helps(shelf, lacking)) {
            tower.lend(shelf, lacking, -1);
            found = fewestFrom(tower, lacking, shelf + 1, taken + 1, found);
            tower.lend(shelf, lacking, 1);
        }
        return fewestFrom(tower, lacking, shelf + 1, taken, found);
    }

    private static boolean isLacking(int[] lacking) {
        for (int kind = 0; kind < KINDS && kind < lacking.length; kind++) {
            if (lacking[kind] > 0) {
                return true;
            }
        }
        return false;
    }

    private int findCheapest() {
        int cheapest = NONE;
        int fewest = 0;
        for (int order = 0; order < now.book.count; order++) {
            if (now.isServable(order)) {
                copy.copyFrom(now);
                int spent = copy.serveOne(order);
                if (cheapest == NONE || spent < fewest) {
                    cheapest = order;
                    fewest = spent;
                }
            }
        }
        return cheapest;
    }

    private static double meanOf(int sum, int times) {
        return times <= 0 ? 0.0 : (double) sum / (double) times;
    }

    // ---- the digest

    private static long hashOn(long hash, long value) {
        return 31L * hash + value;
    }

    private static long hashOn(long hash, boolean value) {
        return hashOn(hash, value ? 1L : 0L);
    }

    private long hashShelves(long start) {
        long hash = hashOn(start, shelves());
        for (int shelf = 0; shelf < now.tower.count; shelf++) {
            hash = hashOn(hash, heightOf(shelf));
            hash = hashOn(hash, sideOf(shelf));
            hash = hashOn(hash, slotOf(shelf));
            hash = hashOn(hash, isAtWindow(shelf));
            for (int kind = 0; kind < KINDS; kind++) {
                hash = hashOn(hash, thingsIn(shelf, kind));
            }
            hash = hashOn(hash, weightOf(shelf));
            hash = hashOn(hash, fetchesOf(shelf));
        }
        return hash;
    }

    // NONE is -1: a number and 1, together, is 0 just if there is none.
    private long hashSlots(long start) {
        long hash = start;
        for (int place = 0; place < PLACES; place++) {
            hash = hashOn(hash, now.tower.holderOf(place) + 1);
        }
        hash = hashOn(hash, freeBySlots());
        hash = hashOn(hash, freeByHeights());
        for (int height = 1; height <= MOST_HEIGHT; height++) {
            hash = hashOn(hash, now.tower.firstFree(height) + 1);
        }
        hash = hashOn(hash, longestGap(0));
        hash = hashOn(hash, longestGap(1));
        hash = hashOn(hash, lift());
        return hashOn(hash, isKeptPlace());
    }

    private long hashKinds(long start) {
        long hash = start;
        for (int kind = 0; kind < KINDS; kind++) {
            hash = hashOn(hash, weightOfKind(kind));
            hash = hashOn(hash, stockByShelves(kind));
            hash = hashOn(hash, stockByAccount(kind));
            hash = hashOn(hash, shelvesWith(kind));
            hash = hashOn(hash, leastOf(kind));
            hash = hashOn(hash, missingOf(kind));
        }
        hash = hashOn(hash, shortKinds());
        hash = hashOn(hash, sideWeight(0));
        return hashOn(hash, sideWeight(1));
    }

    private long hashTrips(long start) {
        long hash = hashOn(start, trips());
        for (int ago = 0; ago < now.lift.remembered; ago++) {
            hash = hashOn(hash, tripTicks(ago));
            hash = hashOn(hash, wasFetch(ago));
        }
        return hash;
    }

    private long hashOrders(long start) {
        long hash = hashOn(start, orders());
        for (int order = 0; order < now.book.count; order++) {
            for (int kind = 0; kind < KINDS; kind++) {
                hash = hashOn(hash, wanted(order, kind));
            }
            boolean isServable = now.isServable(order);
            hash = hashOn(hash, isServable);
            if (isServable) {
                int choice = now.choice(order);
                hash = hashOn(hash, Integer.bitCount(choice));
                hash = hashOn(hash, fewestFound(order));
                hash = hashOn(hash, choice);
            }
        }
        return hash;
    }

    private long hashAccounts(long start) {
        long hash = hashOn(start, ticks());
        hash = hashOn(hash, fetches());
        hash = hashOn(hash, served());
        hash = hashOn(hash, now.findHeaviest() + 1);
        hash = hashOn(hash, now.tower.mostUsed(0) + 1);
        hash = hashOn(hash, usedWays());
        hash = hashOn(hash, savedStates());
        hash = hashOn(hash, bitsOf(meanTicks()));
        return hashOn(hash, bitsOf(meanWay()));
    }

    private long hashTexts(long start) {
        long hash = start;
        for (int slot = 0; slot < SNAPSHOTS; slot++) {
            hash = hashOn(hash, history.snapshots[slot] != null);
        }
        hash = hashOn(hash, buffer.length);
        for (int i = 0; i < buffer.length; i++) {
            hash = hashOn(hash, buffer.codes[i]);
        }
        return hash;
    }

    /** By sums, as Double is no part of the language; a mean is 0.0 or far above the least doubles. */
    private static long bitsOf(double mean) {
        if (!(mean > 0.0)) {
            return 0L;
        }
        double fraction = mean;
        long exponent = 1023L;
        for (int i = 0; i < 1023 && fraction >= 2.0; i++) {
            fraction = fraction / 2.0;
            exponent++;
        }
        for (int i = 0; i < 1022 && fraction < 1.0; i++) {
            fraction = fraction * 2.0;
            exponent--;
        }
        return (exponent << 52) + (long) ((fraction - 1.0) * (double) (1L << 52));
    }

    /**
     * The shelves: a place is 20 times the side, and the slot, together. A shelf at the window has the
     * place that it had.
     */
    private static final class Tower {
        private int count = 0;
        private int window = NONE;
        private final int[] heights = new int[MOST_SHELVES];
        private final int[] places = new int[MOST_SHELVES];
        private final int[] uses = new int[MOST_SHELVES];
        private final int[] things = new int[MOST_SHELVES * KINDS];

        private void copyFrom(Tower other) {
            count = other.count;
            window = other.window;
            System.arraycopy(other.heights, 0, heights, 0, MOST_SHELVES);
            System.arraycopy(other.places, 0, places, 0, MOST_SHELVES);
            System.arraycopy(other.uses, 0, uses, 0, MOST_SHELVES);
            System.arraycopy(other.things, 0, things, 0, MOST_SHELVES * KINDS);
        }

        private int addAt(int place, int height) {
            int shelf = count;
            heights[shelf] = height;
            places[shelf] = place;
            uses[shelf] = 0;
            for (int kind = 0; kind < KINDS; kind++) {
                things[shelf * KINDS + kind] = 0;
            }
            count++;
            return shelf;
        }

        private void remove(int shelf) {
            for (int next = shelf + 1; next < count; next++) {
                heights[next - 1] = heights[next];
                places[next - 1] = places[next];
                uses[next - 1] = uses[next];
                System.arraycopy(things, next * KINDS, things, (next - 1) * KINDS, KINDS);
            }
            count--;
            if (window > shelf) {
                window--;
            }
        }

        private int countIn(int shelf, int kind) {
            return things[shelf * KINDS + kind];
        }

        private int change(int shelf, int kind, int many) {
            things[shelf * KINDS + kind] += many;
            return things[shelf * KINDS + kind];
        }

        private boolean isEmpty(int shelf) {
            for (int kind = 0; kind < KINDS; kind++) {
                if (countIn(shelf, kind) > 0) {
                    return false;
                }
            }
            return true;
        }

        private int stockOf(int kind) {
            int sum = 0;
            for (int shelf = 0; shelf < count; shelf++) {
                sum += countIn(shelf, kind);
            }
            return sum;
        }

        private int countHolding(int kind) {
            int holding = 0;
            for (int shelf = 0; shelf < count; shelf++) {
                if (countIn(shelf, kind) > 0) {
                    holding++;
                }
            }
            return holding;
        }

        private boolean helps(int shelf, int[] lacking) {
            for (int kind = 0; kind < KINDS && kind < lacking.length; kind++) {
                if (lacking[kind] > 0 && countIn(shelf, kind) > 0) {
                    return true;
                }
            }
            return false;
        }

        private void lend(int shelf, int[] lacking, int sign) {
            for (int kind = 0; kind < KINDS && kind < lacking.length; kind++) {
                lacking[kind] += sign * countIn(shelf, kind);
            }
        }

        // The slots of a height, from the slot on, as a set of bits.
        private static int rowOf(int slot, int height) {
            return (1 << height) - 1 << slot;
        }

        private static boolean fits(int taken, int slot, int height) {
            return slot + height <= SLOTS && (taken >> slot & (1 << height) - 1) == 0;
        }

        private static int firstFit(int takenInFront, int takenBehind, int height) {
            for (int slot = 0; slot < SLOTS; slot++) {
                if (fits(takenInFront, slot, height)) {
                    return slot;
                }
                if (fits(takenBehind, slot, height)) {
                    return SLOTS + slot;
                }
            }
            return NONE;
        }

        private static int wayOf(int place) {
            return place % SLOTS + BEHIND_WAY * (place / SLOTS);
        }

        private int takenOn(int side) {
            int taken = 0;
            for (int shelf = 0; shelf < count; shelf++) {
                if (shelf != window && places[shelf] / SLOTS == side) {
                    taken |= rowOf(places[shelf] % SLOTS, heights[shelf]);
                }
            }
            return taken;
        }

        private int firstFree(int height) {
            return firstFit(takenOn(0), takenOn(1), height);
        }

        private int holderOf(int place) {
            for (int shelf = 0; shelf < count; shelf++) {
                if (shelf != window && place >= places[shelf] && place < places[shelf] + heights[shelf]) {
                    return shelf;
                }
            }
            return NONE;
        }

        private int countFree(int side) {
            int taken = takenOn(side);
            int free = 0;
            for (int slot = 0; slot < SLOTS; slot++) {
                if (fits(taken, slot, 1)) {
                    free++;
                }
            }
            return free;
        }

        private int longestFree(int side) {
            int taken = takenOn(side);
            int longest = 0;
            int length = 0;
            for (int slot = 0; slot < SLOTS; slot++) {
                length = fits(taken, slot, 1) ? length + 1 : 0;
                longest = Math.max(longest, length);
            }
            return longest;
        }

        private int sumOfHeights() {
            int sum = 0;
            for (int shelf = 0; shelf < count; shelf++) {
                if (shelf != window) {
                    sum += heights[shelf];
                }
            }
            return sum;
        }

        private int sumOfUses() {
            int sum = 0;
            for (int shelf = 0; shelf < count; shelf++) {
                sum += uses[shelf];
            }
            return sum;
        }

        private int sumOfUsedWays() {
            int sum = 0;
            for (int shelf = 0; shelf < count; shelf++) {
                sum += wayOf(places[shelf]) * uses[shelf];
            }
            return sum;
        }

        /** The shelf that is not among those left out, as bits; of like ones the first. */
        private int mostUsed(int leftOut) {
            int most = NONE;
            for (int shelf = 0; shelf < count; shelf++) {
                boolean isIn = (leftOut >> shelf & 1) == 0;
                if (isIn && (most == NONE || uses[shelf] > uses[most])) {
                    most = shelf;
                }
            }
            return most;
        }

        /** Puts the place of each shelf in the packed tower into the row; false if some would not fit. */
        private boolean findPacked(int[] packed) {
            int inFront = 0;
            int behind = 0;
            int packedShelves = 0;
            for (int turn = 0; turn < count; turn++) {
                int shelf = mostUsed(packedShelves);
                if (shelf == NONE || shelf >= packed.length) {
                    return false;
                }
                int place = firstFit(inFront, behind, heights[shelf]);
                if (place == NONE) {
                    return false;
                }
                packed[shelf] = place;
                packedShelves |= 1 << shelf;
                if (place < SLOTS) {
                    inFront |= rowOf(place, heights[shelf]);
                } else {
                    behind |= rowOf(place - SLOTS, heights[shelf]);
                }
            }
            return true;
        }

        private int countMoved(int[] packed) {
            int moved = 0;
            for (int shelf = 0; shelf < count && shelf < packed.length; shelf++) {
                if (packed[shelf] != places[shelf]) {
                    moved++;
                }
            }
            return moved;
        }

        private void moveTo(int[] packed) {
            for (int shelf = 0; shelf < count && shelf < packed.length; shelf++) {
                places[shelf] = packed[shelf];
            }
        }
    }

    /** The lift with its rule, its accounts and its latest trips, the latest one first. */
    private static final class Lift {
        private int slot = 0;
        private boolean keepsPlaces = true;
        private int allTicks = 0;
        private int allFetches = 0;
        private int remembered = 0;
        private final int[] tripSums = new int[MOST_TRIPS];
        private final boolean[] tripBrought = new boolean[MOST_TRIPS];

        private void copyFrom(Lift other) {
            slot = other.slot;
            keepsPlaces = other.keepsPlaces;
            allTicks = other.allTicks;
            allFetches = other.allFetches;
            remembered = other.remembered;
            for (int ago = 0; ago < MOST_TRIPS; ago++) {
                tripSums[ago] = other.tripSums[ago];
                tripBrought[ago] = other.tripBrought[ago];
            }
        }

        private void go(int spent, boolean brings, int endSlot) {
            for (int ago = MOST_TRIPS - 1; ago > 0; ago--) {
                tripSums[ago] = tripSums[ago - 1];
                tripBrought[ago] = tripBrought[ago - 1];
            }
            tripSums[0] = spent;
            tripBrought[0] = brings;
            remembered = Math.min(remembered + 1, MOST_TRIPS);
            allTicks += spent;
            allFetches += brings ? 1 : 0;
            slot = endSlot;
        }
    }

    /** What is told of each kind of things. */
    private static final class Goods {
        private final int[] weights = new int[KINDS];
        private final int[] leasts = new int[KINDS];
        private final int[] filledIn = new int[KINDS];
        private final int[] takenOut = new int[KINDS];

        private Goods() {
            for (int kind = 0; kind < KINDS; kind++) {
                weights[kind] = 1;
            }
        }

        private void copyFrom(Goods other) {
            System.arraycopy(other.weights, 0, weights, 0, KINDS);
            System.arraycopy(other.leasts, 0, leasts, 0, KINDS);
            System.arraycopy(other.filledIn, 0, filledIn, 0, KINDS);
            System.arraycopy(other.takenOut, 0, takenOut, 0, KINDS);
        }
    }

    /** The orders that were taken on. */
    private static final class OrderBook {
        private int count = 0;
        private final int[] wants = new int[MOST_ORDERS * KINDS];

        private void copyFrom(OrderBook other) {
            count = other.count;
            System.arraycopy(other.wants, 0, wants, 0, MOST_ORDERS * KINDS);
        }

        private int add(int[] numbers) {
            int order = count;
            for (int kind = 0; kind < KINDS && kind < numbers.length; kind++) {
                wants[order * KINDS + kind] = numbers[kind];
            }
            count++;
            return order;
        }

        private void remove(int order) {
            for (int next = order + 1; next < count; next++) {
                System.arraycopy(wants, next * KINDS, wants, (next - 1) * KINDS, KINDS);
            }
            count--;
        }

        private int wantedOf(int order, int kind) {
            return wants[order * KINDS + kind];
        }

        private int sumOf(int order) {
            int sum = 0;
            for (int kind = 0; kind < KINDS; kind++) {
                sum += wantedOf(order, kind);
            }
            return sum;
        }
    }

    /** All that a snapshot holds and that undo restores. */
    private static final class State {
        private final Tower tower = new Tower();
        private final Lift lift = new Lift();
        private final Goods goods = new Goods();
        private final OrderBook book = new OrderBook();
        private int servedOrders = 0;

        private void copyFrom(State other) {
            tower.copyFrom(other.tower);
            lift.copyFrom(other.lift);
            goods.copyFrom(other.goods);
            book.copyFrom(other.book);
            servedOrders = other.servedOrders;
        }

        private int weighShelf(int shelf) {
            int sum = 0;
            for (int kind = 0; kind < KINDS; kind++) {
                sum += tower.countIn(shelf, kind) * goods.weights[kind];
            }
            return sum;
        }

        private int weighSide(int side) {
            int sum = 0;
            for (int shelf = 0; shelf < tower.count; shelf++) {
                if (shelf != tower.window && tower.places[shelf] / SLOTS == side) {
                    sum += weighShelf(shelf);
                }
            }
            return sum;
        }

        private boolean wouldBeTooHeavy(int kind, int weight) {
            int more = weight - goods.weights[kind];
            for (int shelf = 0; shelf < tower.count; shelf++) {
                if (weighShelf(shelf) + more * tower.countIn(shelf, kind) > MOST_SHELF_WEIGHT) {
                    return true;
                }
            }
            return false;
        }

        private int findHeaviest() {
            int heaviest = NONE;
            int most = 0;
            for (int shelf = 0; shelf < tower.count; shelf++) {
                int weight = weighShelf(shelf);
                if (heaviest == NONE || weight > most) {
                    heaviest = shelf;
                    most = weight;
                }
            }
            return heaviest;
        }

        private int missing(int kind) {
            return Math.max(0, goods.leasts[kind] - tower.stockOf(kind));
        }

        private int ticksToBring(int shelf) {
            int place = tower.places[shelf];
            return Math.abs(lift.slot - place % SLOTS) + Tower.wayOf(place);
        }

        private int bring(int shelf) {
            int spent = ticksToBring(shelf);
            lift.go(spent, true, 0);
            tower.window = shelf;
            tower.uses[shelf]++;
            return spent;
        }

        private int putAt(int place) {
            int shelf = tower.window;
            if (shelf < 0 || shelf >= tower.count) {
                return 0;
            }
            int spent = Tower.wayOf(place);
            lift.go(spent, false, place % SLOTS);
            tower.places[shelf] = place;
            tower.window = NONE;
            return spent;
        }

        private int putBack() {
            int shelf = tower.window;
            if (shelf < 0 || shelf >= tower.count) {
                return 0;
            }
            int place = lift.keepsPlaces ? NONE : tower.firstFree(tower.heights[shelf]);
            return putAt(place == NONE ? tower.places[shelf] : place);
        }

        private boolean isServable(int order) {
            return isEnough(order, (1 << tower.count) - 1);
        }

        private boolean isEnough(int order, int set) {
            for (int kind = 0; kind < KINDS; kind++) {
                int lacks = book.wantedOf(order, kind);
                for (int shelf = 0; shelf < tower.count && lacks > 0; shelf++) {
                    if ((set >> shelf & 1) != 0) {
                        lacks -= tower.countIn(shelf, kind);
                    }
                }
                if (lacks > 0) {
                    return false;
                }
            }
            return true;
        }

        private int usefulShelves(int order) {
            int useful = 0;
            for (int shelf = 0; shelf < tower.count; shelf++) {
                for (int kind = 0; kind < KINDS; kind++) {
                    if (book.wantedOf(order, kind) > 0 && tower.countIn(shelf, kind) > 0) {
                        useful |= 1 << shelf;
                    }
                }
            }
            return useful;
        }

        /**
         * The choice of an order that can be served, by trying all sets. A set with a useless shelf is
         * none of the fewest; rising numbers make the first of the fewest the least number.
         */
        private int choice(int order) {
            int useful = usefulShelves(order);
            int best = useful;
            int fewest = Integer.bitCount(useful);
            for (int set = 0; set < useful; set++) {
                if ((set & ~useful) == 0 && Integer.bitCount(set) < fewest && isEnough(order, set)) {
                    best = set;
                    fewest = Integer.bitCount(set);
                }
            }
            return best;
        }

        private int sumTicks(int set) {
            int sum = 0;
            int slot = lift.slot;
            for (int shelf = 0; shelf < tower.count; shelf++) {
                if ((set >> shelf & 1) != 0) {
                    int place = tower.places[shelf];
                    sum += Math.abs(slot - place % SLOTS) + 2 * Tower.wayOf(place);
                    slot = place % SLOTS;
                }
            }
            return sum;
        }

        private void give(int shelf, int order) {
            for (int kind = 0; kind < KINDS; kind++) {
                int given = Math.min(tower.countIn(shelf, kind), book.wantedOf(order, kind));
                tower.change(shelf, kind, -given);
                book.wants[order * KINDS + kind] -= given;
                goods.takenOut[kind] += given;
            }
        }

        private int serveOne(int order) {
            int before = lift.allTicks;
            int set = choice(order);
            for (int shelf = 0; shelf < tower.count; shelf++) {
                if ((set >> shelf & 1) != 0) {
                    bring(shelf);
                    give(shelf, order);
                    putBack();
                }
            }
            book.remove(order);
            servedOrders++;
            return lift.allTicks - before;
        }

        private int firstServable() {
            for (int order = 0; order < book.count; order++) {
                if (isServable(order)) {
                    return order;
                }
            }
            return NONE;
        }

        private int serveEach() {
            int spent = 0;
            for (int turn = 0; turn < MOST_ORDERS; turn++) {
                int order = firstServable();
                if (order == NONE) {
                    return spent;
                }
                spent += serveOne(order);
            }
            return spent;
        }
    }

    /** The saved states, the oldest one first, and the snapshots. Rows are made once and used again. */
    private static final class History {
        private int count = 0;
        private final State[] saved = new State[MOST_SAVED];
        private final State[] snapshots = new State[SNAPSHOTS];

        private void save(State state) {
            if (count >= MOST_SAVED) {
                dropOldest();
            }
            State row = saved[count];
            if (row == null) {
                row = new State();
                saved[count] = row;
            }
            row.copyFrom(state);
            count++;
        }

        private void dropOldest() {
            State oldest = saved[0];
            for (int i = 1; i < MOST_SAVED; i++) {
                saved[i - 1] = saved[i];
            }
            saved[MOST_SAVED - 1] = oldest;
            count = MOST_SAVED - 1;
        }

        private boolean restoreLatest(State state) {
            if (count <= 0 || count > MOST_SAVED) {
                return false;
            }
            State row = saved[count - 1];
            if (row == null) {
                return false;
            }
            state.copyFrom(row);
            count--;
            return true;
        }

        private void takeSnapshot(int slot, State state) {
            State row = snapshots[slot];
            if (row == null) {
                row = new State();
                snapshots[slot] = row;
            }
            row.copyFrom(state);
        }
    }

    /** The buffer. */
    private static final class OrderText {
        private int length = 0;
        private final int[] codes = new int[MOST_CODES];
        private final OrderReader reader = new OrderReader();

        /** Returns the index of the first syntax error, or the length. */
        private int readAll() {
            reader.begin();
            for (int i = 0; i < length; i++) {
                if (!reader.read(codes[i])) {
                    return i;
                }
            }
            return length;
        }

        private boolean isOrder() {
            return readAll() == length && reader.isAtEnd();
        }
    }

    /** Reads an order as a text, character by character. */
    private static final class OrderReader {
        private static final int BEFORE_KIND = 0;
        private static final int BEFORE_STAR = 1;
        private static final int BEFORE_NUMBER = 2;
        private static final int IN_NUMBER = 3;

        private int stage = BEFORE_KIND;
        private int kind = NONE;
        private final int[] numbers = new int[KINDS];

        private void begin() {
            stage = BEFORE_KIND;
            kind = NONE;
            for (int i = 0; i < KINDS; i++) {
                numbers[i] = 0;
            }
        }

        private boolean isAtEnd() {
            return stage == IN_NUMBER;
        }

        /** Returns false if no order goes on like this; then there is no more to read. */
        private boolean read(int code) {
            switch (stage) {
                case BEFORE_KIND:
                    return readKind(code);
                case BEFORE_STAR:
                    stage = BEFORE_NUMBER;
                    return code == '*';
                case BEFORE_NUMBER:
                    stage = IN_NUMBER;
                    return code != '0' && readDigit(code);
                default:
                    return code == ',' ? readComma() : readDigit(code);
            }
        }

        private boolean readKind(int code) {
            int digit = code - '0';
            if (digit <= kind || digit < 0 || digit >= KINDS) {
                return false;
            }
            kind = digit;
            stage = BEFORE_STAR;
            return true;
        }

        private boolean readDigit(int code) {
            int digit = code - '0';
            if (digit < 0 || digit > 9 || kind < 0 || kind >= KINDS) {
                return false;
            }
            numbers[kind] = numbers[kind] * 10 + digit;
            return numbers[kind] <= MOST_MANY;
        }

        // Behind the last kind none can rise.
        private boolean readComma() {
            stage = BEFORE_KIND;
            return kind < KINDS - 1;
        }
    }
}
