import java.util.stream.IntStream;

/** Objects as tests want them, and numbers to ask them with. */
final class Made {
    private static final int[] FAR = {
        Integer.MIN_VALUE, Integer.MIN_VALUE + 1, -65536, -10000, -256, -100, -10, -2, -1,
        11, 100, 127, 128, 255, 256, 257, 65535, 65536, 65537, 1 << 30, Integer.MAX_VALUE - 1, Integer.MAX_VALUE
    };

    private Made() {
    }

    /** Numbers outside of a range: those beside its ends, and some far off at which an int may wrap. */
    static int[] outside(int first, int last) {
        IntStream near = IntStream.of(first - 2, first - 1, last + 1, last + 2, first + 256, last + 65536);
        return IntStream.concat(near, IntStream.of(FAR)).filter(n -> n < first || n > last).distinct().toArray();
    }

    static int[] spotsOf(int shelf) {
        int first = 100 * shelf;
        return new int[] {first, first + 1, first + 2, first + 10, first + 11, first + 12};
    }

    /** The 36 spots from the lowest to the highest. */
    static int[] spots() {
        return IntStream.range(0, 6).flatMap(shelf -> IntStream.of(spotsOf(shelf))).toArray();
    }

    static boolean isSpot(int number) {
        return IntStream.of(spots()).anyMatch(spot -> spot == number);
    }

    /** Numbers that are no spots: all beside the shelves and on them, and some far off. */
    static int[] noSpots() {
        IntStream near = IntStream.range(-700, 1300);
        return IntStream.concat(near, IntStream.of(outside(0, 512))).filter(n -> !isSpot(n)).distinct().toArray();
    }

    static int aisleOf(int spot) {
        return spot % 100 < 10 ? spot / 100 : spot / 100 + 1;
    }

    /** Boxes of the climate 0, the weight 1 and the kin 0, all out. */
    static Rackrail boxes(int count) {
        Rackrail x = new Rackrail();
        for (int box = 0; box < count; box++) {
            x.addBox(0, 1, 0);
        }
        return x;
    }

    /** The same, laid from the lowest spot on. */
    static Rackrail laid(int count) {
        Rackrail x = boxes(count);
        for (int box = 0; box < count; box++) {
            x.lay(box);
        }
        return x;
    }

    static Rackrail at(int aisle) {
        return go(new Rackrail(), aisle);
    }

    /** Shelves on the way from an aisle to another, after some minutes. */
    static Rackrail onTheWay(int from, int to, int minutes) {
        Rackrail x = at(from);
        x.open(to);
        return minutes == 0 ? x : passed(x, minutes);
    }

    static Rackrail go(Rackrail x, int aisle) {
        return x.open(aisle) == 0 ? x : passed(x, 6);
    }

    static Rackrail passed(Rackrail x, int minutes) {
        int left = minutes;
        while (left > 0) {
            int now = Math.min(left, 100);
            x.pass(now);
            left -= now;
        }
        return x;
    }

    static Rackrail inside(Rackrail x, int... people) {
        for (int person : people) {
            x.goIn(person);
        }
        return x;
    }

    static Rackrail doubting(Rackrail x, int... aisles) {
        for (int aisle : aisles) {
            x.doubt(aisle);
        }
        return x;
    }

    static Rackrail stalled(Rackrail x) {
        x.stall(true);
        return x;
    }

    static Rackrail smoky(Rackrail x) {
        x.smoke(true);
        return x;
    }

    static Rackrail ordered(Rackrail x, int box, int deadline) {
        x.order(box, deadline);
        return x;
    }

    /** Opens the aisle of a spot and gives a box back there, from where nothing hinders that. */
    static Rackrail put(Rackrail x, int box, int spot) {
        go(x, aisleOf(spot));
        x.goIn(0);
        x.giveBack(0, box, spot);
        x.goOut(0);
        return x;
    }

    /** Two boxes that lie, and so many orders for the first, each done and the box given back. */
    static Rackrail ordersDone(int count) {
        Rackrail x = inside(laid(2), 0);
        for (int order = 0; order < count; order++) {
            x.order(0, 10000);
            x.fetch(0);
            x.giveBack(0, 0, 0);
        }
        return x;
    }
}
