/**
 * An archive on rails: shelves that move so that one aisle is open, the people inside, sensors that
 * doubt, boxes in spots, and orders for them.
 *
 * <p>The face looks at every number that it is given and throws before anything changes; the classes
 * inside it hold the state and never throw.
 */
public final class Rackrail {
    /** None. */
    public static final int NONE = -1;

    private static final int SHELVES = 6;
    private static final int AISLES = SHELVES + 1;
    private static final int SIDES = 2;
    private static final int PLACES = 3;
    private static final int CLIMATES = 3;
    private static final int SHELF_BEARS = 100;

    private static final int BOXES = 20;
    private static final int HEAVIEST = 60;
    private static final int KINS = 10;

    private static final int PEOPLE = 4;
    private static final int LONGEST_PASS = 100;
    private static final int CLOCK_END = 10000;

    private static final int ORDERS = 30;
    private static final int ANY_AISLE = -2;

    private final Store store;
    private final Rail rail;
    private final Orders orders;
    private int clock;

    /** Creates an archive without boxes; the aisle 0 is open. */
    public Rackrail() {
        store = new Store();
        rail = new Rail();
        orders = new Orders();
        clock = 0;
    }

    // ---- shelves and boxes

    /** Sets the climate of a shelf, and returns the climate before. Boxes that lie there stay. */
    public int setClimate(int shelf, int climate)
            throws IndexOutOfBoundsException, IllegalArgumentException {
        requireShelf(shelf);
        if (!isBelow(climate, CLIMATES)) {
            throw new IllegalArgumentException("climate out of range");
        }
        int before = store.climateOf(shelf);
        store.changeClimate(shelf, climate);
        return before;
    }

    /** Enters a box, which is out, and returns its number. */
    public int addBox(int climate, int weight, int kin)
            throws IllegalArgumentException, IllegalStateException {
        if (!isBelow(climate, CLIMATES)) {
            throw new IllegalArgumentException("climate out of range");
        }
        if (weight < 1 || weight > HEAVIEST) {
            throw new IllegalArgumentException("weight out of range");
        }
        if (!isBelow(kin, KINS)) {
            throw new IllegalArgumentException("kin out of range");
        }
        if (store.isFull()) {
            throw new IllegalStateException("no more boxes");
        }
        return store.enter(climate, weight, kin);
    }

    /** Returns the best spot for a box that is out; NONE if there is none. */
    public int bestSpot(int box) throws IndexOutOfBoundsException, IllegalStateException {
        requireBox(box);
        requireOut(box);
        return store.bestSpotFor(box);
    }

    /** Lays a box that is out into its best spot, and returns the spot. */
    public int lay(int box) throws IndexOutOfBoundsException, IllegalStateException {
        requireBox(box);
        requireOut(box);
        int spot = store.bestSpotFor(box);
        if (spot == NONE) {
            throw new IllegalStateException("no spot for the box");
        }
        store.put(box, spot);
        return spot;
    }

    /** Returns the spot of a box; NONE if it is out. */
    public int spotOf(int box) throws IndexOutOfBoundsException {
        requireBox(box);
        return store.whereIs(box);
    }

    /** Returns the box in a spot; NONE if there is none. */
    public int boxAt(int spot) throws IndexOutOfBoundsException {
        requireSpot(spot);
        return store.boxIn(spot);
    }

    /** Returns the weight of all boxes on a shelf. */
    public int weight(int shelf) throws IndexOutOfBoundsException {
        requireShelf(shelf);
        return store.weightOn(shelf);
    }

    /** Returns how many boxes lie on a shelf of another climate. */
    public int wrong() {
        return store.countWrong();
    }

    // ---- aisles and people

    /** Begins to open an aisle, and returns how many minutes it takes; 0 if it is open. */
    public int open(int aisle) throws IndexOutOfBoundsException, IllegalStateException {
        requireAisle(aisle);
        if (!rail.mayOpen()) {
            throw new IllegalStateException("no aisle may be opened now");
        }
        rail.aimAt(aisle);
        return rail.movesToCome();
    }

    /** Returns the aisle that is open; NONE while shelves move, or have stopped on the way. */
    public int opened() {
        return rail.openAisle();
    }

    /** Returns the same, found from all moves of shelves so far. */
    public int openedByMoves() {
        return rail.openAisleByMoves();
    }

    /** Lets a person go in, and returns how many are inside then. */
    public int goIn(int person) throws IndexOutOfBoundsException, IllegalStateException {
        requirePerson(person);
        if (rail.isInside(person)) {
            throw new IllegalStateException("the person is inside");
        }
        if (!rail.mayGoIn()) {
            throw new IllegalStateException("nobody may go in now");
        }
        rail.setInside(person, true);
        return rail.countInside();
    }

    /** Lets a person go out, and returns how many are inside then. */
    public int goOut(int person) throws IndexOutOfBoundsException, IllegalStateException {
        requirePerson(person);
        requireInside(person);
        rail.setInside(person, false);
        return rail.countInside();
    }

    /** Lets the sensor of an aisle doubt, and returns true if it did not doubt before. */
    public boolean doubt(int aisle) throws IndexOutOfBoundsException {
        requireAisle(aisle);
        boolean doubted = rail.hasDoubt(aisle);
        rail.setDoubt(aisle, true);
        return !doubted;
    }

    /** Looks into the aisle that is open, and returns true if its sensor doubted. */
    public boolean look() throws IllegalStateException {
        int aisle = rail.openAisle();
        if (aisle == NONE) {
            throw new IllegalStateException("no aisle is open");
        }
        boolean doubted = rail.hasDoubt(aisle);
        rail.setDoubt(aisle, false);
        return doubted;
    }

    /** Lets the motor stall, or mends it, and returns true if that changes something. */
    public boolean stall(boolean is) {
        return rail.changeStall(is);
    }

    /** Tells of smoke, or that there is none any more, and returns how many go out by that. */
    public int smoke(boolean is) {
        rail.changeSmoke(is);
        return is ? rail.sendAllOut() : 0;
    }

    /** Lets minutes pass, and returns the clock then. */
    public int pass(int minutes) throws IllegalArgumentException, IllegalStateException {
        if (minutes < 1 || minutes > LONGEST_PASS) {
            throw new IllegalArgumentException("minutes out of range");
        }
        if (clock + minutes > CLOCK_END) {
            throw new IllegalStateException("the clock would pass its end");
        }
        clock += minutes;
        rail.moveFor(minutes);
        return clock;
    }

    // ---- orders

    /** Enters an order, and returns its number. */
    public int order(int box, int deadline)
            throws IndexOutOfBoundsException, IllegalArgumentException, IllegalStateException {
        requireBox(box);
        if (deadline < 0 || deadline > CLOCK_END) {
            throw new IllegalArgumentException("deadline out of range");
        }
        if (orders.isOpenFor(box)) {
            throw new IllegalStateException("the box has an open order");
        }
        if (orders.isFull()) {
            throw new IllegalStateException("no more orders");
        }
        return orders.enter(box, deadline);
    }

    /** Returns the next aisle; NONE if there is none. */
    public int nextAisle() {
        int next = orders.earliest(store, ANY_AISLE);
        return store.aisleOfBox(orders.boxOf(next));
    }

    /** Lets a person fetch, and returns the order that is done. */
    public int fetch(int person) throws IndexOutOfBoundsException, IllegalStateException {
        requirePerson(person);
        requireInside(person);
        int done = orders.earliest(store, rail.openAisle());
        if (done == NONE) {
            throw new IllegalStateException("no order for this aisle");
        }
        orders.finish(done, clock);
        store.put(orders.boxOf(done), NONE);
        return done;
    }

    /** Lets a person give a box back, and returns true if the climate is that of the box. */
    public boolean giveBack(int person, int box, int spot)
            throws IndexOutOfBoundsException, IllegalStateException {
        requirePerson(person);
        requireBox(box);
        requireSpot(spot);
        requireInside(person);
        requireOut(box);
        if (aisleAt(spot) != rail.openAisle()) {
            throw new IllegalStateException("the spot is not reached");
        }
        if (store.boxIn(spot) != NONE) {
            throw new IllegalStateException("a box lies there");
        }
        store.put(box, spot);
        return !store.isWrong(box);
    }

    /** Returns how many orders are open. */
    public int waiting() {
        return orders.countOpen();
    }

    /** Returns how many orders were done late. */
    public int late() {
        return orders.countLate();
    }

    // ---- what the face asks of its numbers

    private void requireShelf(int shelf) {
        if (!isBelow(shelf, SHELVES)) {
            throw new IndexOutOfBoundsException("no such shelf");
        }
    }

    private void requireAisle(int aisle) {
        if (!isBelow(aisle, AISLES)) {
            throw new IndexOutOfBoundsException("no such aisle");
        }
    }

    private void requireSpot(int spot) {
        if (!isSpot(spot)) {
            throw new IndexOutOfBoundsException("no such spot");
        }
    }

    private void requirePerson(int person) {
        if (!isBelow(person, PEOPLE)) {
            throw new IndexOutOfBoundsException("no such person");
        }
    }

    private void requireBox(int box) {
        if (!store.has(box)) {
            throw new IndexOutOfBoundsException("no such box");
        }
    }

    private void requireOut(int box) {
        if (store.whereIs(box) != NONE) {
            throw new IllegalStateException("the box is not out");
        }
    }

    private void requireInside(int person) {
        if (!rail.isInside(person)) {
            throw new IllegalStateException("the person is not inside");
        }
    }

    private static boolean isBelow(int number, int end) {
        return number >= 0 && number < end;
    }

    private static int spotAt(int shelf, int side, int place) {
        return 100 * shelf + 10 * side + place;
    }

    private static int shelfAt(int spot) {
        return spot / 100;
    }

    private static int sideAt(int spot) {
        return spot / 10 % 10;
    }

    private static int placeAt(int spot) {
        return spot % 10;
    }

    private static boolean isSpot(int spot) {
        return spot >= 0 && shelfAt(spot) < SHELVES && sideAt(spot) < SIDES && placeAt(spot) < PLACES;
    }

    /** The aisle from which one reaches a spot: at the shelf's left, or for the side 1 at its right. */
    private static int aisleAt(int spot) {
        return shelfAt(spot) + sideAt(spot);
    }

    /** The climates of the shelves, and the boxes with the spots in which they lie. */
    private static final class Store {
        private final int[] shelfClimates = new int[SHELVES];
        private final int[] climates = new int[BOXES];
        private final int[] weights = new int[BOXES];
        private final int[] kins = new int[BOXES];
        private final int[] spots = new int[BOXES];
        private int count = 0;

        int climateOf(int shelf) {
            return isBelow(shelf, SHELVES) ? shelfClimates[shelf] : NONE;
        }

        void changeClimate(int shelf, int climate) {
            if (isBelow(shelf, SHELVES)) {
                shelfClimates[shelf] = climate;
            }
        }

        boolean isFull() {
            return count >= BOXES;
        }

        boolean has(int box) {
            return isBelow(box, count);
        }

        int enter(int climate, int weight, int kin) {
            if (isFull()) {
                return NONE;
            }
            int box = count;
            climates[box] = climate;
            weights[box] = weight;
            kins[box] = kin;
            spots[box] = NONE;
            count++;
            return box;
        }

        int whereIs(int box) {
            return has(box) ? spots[box] : NONE;
        }

        void put(int box, int spot) {
            if (has(box)) {
                spots[box] = spot;
            }
        }

        int boxIn(int spot) {
            for (int box = 0; box < count; box++) {
                if (spots[box] == spot) {
                    return box;
                }
            }
            return NONE;
        }

        int aisleOfBox(int box) {
            int spot = whereIs(box);
            return spot == NONE ? NONE : aisleAt(spot);
        }

        /** A box that is out lies on no shelf; NONE alone would divide to the shelf 0. */
        private boolean liesOn(int box, int shelf) {
            int spot = whereIs(box);
            return spot != NONE && shelfAt(spot) == shelf;
        }

        int weightOn(int shelf) {
            int sum = 0;
            for (int box = 0; box < count; box++) {
                if (liesOn(box, shelf)) {
                    sum += weights[box];
                }
            }
            return sum;
        }

        private int countKin(int shelf, int kin) {
            int found = 0;
            for (int box = 0; box < count; box++) {
                if (kins[box] == kin && liesOn(box, shelf)) {
                    found++;
                }
            }
            return found;
        }

        boolean isWrong(int box) {
            int spot = whereIs(box);
            return spot != NONE && climates[box] != climateOf(shelfAt(spot));
        }

        int countWrong() {
            int found = 0;
            for (int box = 0; box < count; box++) {
                if (isWrong(box)) {
                    found++;
                }
            }
            return found;
        }

        private int firstFreeSpot(int shelf) {
            for (int side = 0; side < SIDES; side++) {
                for (int place = 0; place < PLACES; place++) {
                    int spot = spotAt(shelf, side, place);
                    if (boxIn(spot) == NONE) {
                        return spot;
                    }
                }
            }
            return NONE;
        }

        int bestSpotFor(int box) {
            if (!has(box)) {
                return NONE;
            }
            int best = NONE;
            int mostKin = NONE;
            for (int shelf = 0; shelf < SHELVES; shelf++) {
                boolean suits = shelfClimates[shelf] == climates[box]
                        && weightOn(shelf) + weights[box] <= SHELF_BEARS;
                int free = firstFreeSpot(shelf);
                int kin = countKin(shelf, kins[box]);
                // Only more kin wins over an earlier shelf: so the lowest spot is kept.
                if (suits && free != NONE && kin > mostKin) {
                    best = free;
                    mostKin = kin;
                }
            }
            return best;
        }
    }

    /** The shelves' way on the rail, the motor, the sensors of the aisles and the people inside. */
    private static final class Rail {
        private final boolean[] doubts = new boolean[AISLES];
        private final boolean[] inside = new boolean[PEOPLE];
        private final int[] moves = new int[SHELVES];
        private int gap = 0;
        private int target = 0;
        private boolean stalled = false;
        private boolean smoky = false;

        int openAisle() {
            return gap == target ? gap : NONE;
        }

        /**
         * All shelves stand at the right of the gap at first, and each move takes one across it: so
         * those with an odd number of moves stand at its left, and their number is its aisle.
         */
        int openAisleByMoves() {
            int atLeft = 0;
            for (int shelf = 0; shelf < SHELVES; shelf++) {
                if (moves[shelf] % 2 == 1) {
                    atLeft++;
                }
            }
            return atLeft == target ? atLeft : NONE;
        }

        boolean mayOpen() {
            int aisle = openAisle();
            return aisle != NONE && countInside() == 0 && !hasDoubt(aisle) && !stalled && !smoky;
        }

        boolean mayGoIn() {
            return openAisle() != NONE && !smoky;
        }

        void aimAt(int aisle) {
            target = aisle;
        }

        int movesToCome() {
            return Math.abs(target - gap);
        }

        void moveFor(int minutes) {
            if (stalled || smoky) {
                return;
            }
            int steps = Math.min(minutes, movesToCome());
            for (int step = 0; step < steps; step++) {
                moveOne();
            }
        }

        /** The shelf beside the gap, on the target's side, moves across it. */
        private void moveOne() {
            boolean gapGoesRight = gap < target;
            int shelf = gapGoesRight ? gap : gap - 1;
            if (isBelow(shelf, SHELVES)) {
                moves[shelf]++;
                gap = gapGoesRight ? gap + 1 : gap - 1;
            }
        }

        boolean hasDoubt(int aisle) {
            return isBelow(aisle, AISLES) && doubts[aisle];
        }

        void setDoubt(int aisle, boolean is) {
            if (isBelow(aisle, AISLES)) {
                doubts[aisle] = is;
            }
        }

        boolean changeStall(boolean is) {
            boolean changes = stalled != is;
            stalled = is;
            return changes;
        }

        void changeSmoke(boolean is) {
            smoky = is;
        }

        boolean isInside(int person) {
            return isBelow(person, PEOPLE) && inside[person];
        }

        void setInside(int person, boolean is) {
            if (isBelow(person, PEOPLE)) {
                inside[person] = is;
            }
        }

        int countInside() {
            int found = 0;
            for (int person = 0; person < PEOPLE; person++) {
                if (inside[person]) {
                    found++;
                }
            }
            return found;
        }

        int sendAllOut() {
            int going = countInside();
            for (int person = 0; person < PEOPLE; person++) {
                inside[person] = false;
            }
            return going;
        }
    }

    /** The orders: which are open, and how many were done late. */
    private static final class Orders {
        private final int[] boxes = new int[ORDERS];
        private final int[] deadlines = new int[ORDERS];
        private final boolean[] done = new boolean[ORDERS];
        private int count = 0;
        private int lateCount = 0;

        boolean isFull() {
            return count >= ORDERS;
        }

        int enter(int box, int deadline) {
            if (isFull()) {
                return NONE;
            }
            int order = count;
            boxes[order] = box;
            deadlines[order] = deadline;
            count++;
            return order;
        }

        int boxOf(int order) {
            return isBelow(order, count) ? boxes[order] : NONE;
        }

        boolean isOpenFor(int box) {
            for (int order = 0; order < count; order++) {
                if (!done[order] && boxes[order] == box) {
                    return true;
                }
            }
            return false;
        }

        /** The open order with the earliest deadline whose box is reached from the aisle. */
        int earliest(Store store, int aisle) {
            int best = NONE;
            int bestDeadline = CLOCK_END + 1;
            for (int order = 0; order < count; order++) {
                int from = store.aisleOfBox(boxes[order]);
                boolean reached = from != NONE && (aisle == ANY_AISLE || from == aisle);
                // Only an earlier deadline wins: so of several the lowest order is kept.
                if (!done[order] && reached && deadlines[order] < bestDeadline) {
                    best = order;
                    bestDeadline = deadlines[order];
                }
            }
            return best;
        }

        void finish(int order, int clock) {
            if (isBelow(order, count)) {
                done[order] = true;
                if (clock > deadlines[order]) {
                    lateCount++;
                }
            }
        }

        int countOpen() {
            int open = 0;
            for (int order = 0; order < count; order++) {
                if (!done[order]) {
                    open++;
                }
            }
            return open;
        }

        int countLate() {
            return lateCount;
        }
    }
}
