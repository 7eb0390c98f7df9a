/** Promises 20 to 25: orders, fetching and giving back. */
public final class OrdersTest {
    private static final int NONE = Rackrail.NONE;

    private static long bit(boolean is) {
        return is ? 1 : 0;
    }

    /** Boxes of the weight 1, box i laid as the i-th: 0, 1, 2, 10, 11, 12, 100 and so on. */
    private static Rackrail withBoxes(int boxes) {
        Rackrail x = new Rackrail();
        for (int box = 0; box < boxes; box++) {
            x.addBox(0, 1, 0);
            x.lay(box);
        }
        return x;
    }

    private static void openNow(Rackrail x, int aisle) {
        x.open(aisle);
        x.pass(6);
    }

    private static void testOrder() {
        Rackrail x = withBoxes(2);
        x.addBox(0, 1, 0);
        Check.same("20: the earliest deadline", 0, x.order(0, 0));
        Check.same("20: the latest deadline", 1, x.order(1, 10000));
        Check.same("20: a box that is out", 2, x.order(2, 5));
        Check.same("24: all are open", 3, x.waiting());
    }

    private static void testOrderThrows() {
        Rackrail x = withBoxes(1);
        Check.noIndex("20: box 1", () -> x.order(1, 0));
        Check.noIndex("20: box -1", () -> x.order(-1, 0));
        Check.noArgument("20: deadline -1", () -> x.order(0, -1));
        Check.noArgument("20: deadline 10001", () -> x.order(0, 10001));
        Check.noIndex("20: the box is named first", () -> x.order(1, -1));
        Check.same("20: none entered", 0, x.order(0, 0));
        Check.noState("20: it has an open order", () -> x.order(0, 0));
        Check.noState("20: also with another deadline", () -> x.order(0, 10000));
        Check.noArgument("20: the deadline is named before that", () -> x.order(0, 10001));
        Check.same("24: one only", 1, x.waiting());
    }

    private static void testOrderAgainWhenDone() {
        Rackrail x = withBoxes(1);
        x.order(0, 0);
        x.goIn(0);
        x.fetch(0);
        Check.same("20: the box is out", 1, x.order(0, 7));
        Check.noState("20: open again", () -> x.order(0, 7));
        Check.same("24: the first is done", 1, x.waiting());
    }

    private static void testThirtyOrders() {
        Rackrail x = withBoxes(2);
        x.goIn(0);
        for (int order = 0; order < 29; order++) {
            Check.same("20: order no. " + order, order, x.order(0, 3));
            Check.same("22: fetch no. " + order, order, x.fetch(0));
            x.giveBack(0, 0, 0);
        }
        Check.same("20: the last", 29, x.order(0, 3));
        Check.noState("20: there are 30", () -> x.order(1, 3));
        Check.same("22: the last", 29, x.fetch(0));
        Check.noState("20: done ones count too", () -> x.order(1, 3));
        Check.noArgument("20: of 30, a wrong deadline", () -> x.order(1, -3));
        Check.same("24: none", 0, x.waiting());
    }

    private static void testNextAisle() {
        Rackrail x = withBoxes(9);
        Check.same("21: none", NONE, x.nextAisle());
        x.order(8, 100);
        Check.same("21: 102 is at the aisle 1", 1, x.nextAisle());
        x.order(0, 50);
        Check.same("21: an earlier one", 0, x.nextAisle());
        x.order(7, 50);
        Check.same("21: of several the lowest order", 0, x.nextAisle());
        x.order(6, 49);
        Check.same("21: the earliest", 1, x.nextAisle());
        x.order(3, 70);
        x.goIn(0);
        Check.same("22: reached from here", 1, x.fetch(0));
        x.goOut(0);
        openNow(x, 1);
        x.goIn(0);
        Check.same("22: the earliest", 3, x.fetch(0));
        Check.same("21: still here", 1, x.nextAisle());
        Check.same("22: 101", 2, x.fetch(0));
        Check.same("22: 10 by the side 1 of the shelf 0", 4, x.fetch(0));
        Check.same("22: 102", 0, x.fetch(0));
        Check.same("21: none any more", NONE, x.nextAisle());
    }

    private static void testNextAisleOfEverySpot() {
        Rackrail x = new Rackrail();
        x.addBox(0, 1, 0);
        int orders = 0;
        for (int aisle = 0; aisle < 7; aisle++) {
            openNow(x, aisle);
            for (int side = 0; side < 2; side++) {
                int spot = 100 * (aisle - side) + 10 * side + side;
                if (spot < 0 || aisle - side > 5) {
                    continue;
                }
                x.goIn(0);
                Check.same("23: " + spot + " from " + aisle, true, x.giveBack(0, 0, spot));
                x.order(0, 10000);
                Check.same("21: for " + spot, aisle, x.nextAisle());
                Check.same("22: for " + spot, orders, x.fetch(0));
                orders++;
                x.goOut(0);
            }
        }
        Check.same("22: two sides of six shelves", 12, orders);
    }

    private static void testNextAisleWhereBoxesAreOut() {
        Rackrail x = new Rackrail();
        x.addBox(0, 1, 0);
        x.addBox(0, 1, 1);
        x.setClimate(0, 1);
        x.order(0, 1);
        Check.same("21: its box is out", NONE, x.nextAisle());
        x.order(1, 2);
        x.lay(1);
        Check.same("21: of those that lie", 1, x.nextAisle());
        x.setClimate(3, 0);
        x.setClimate(1, 1);
        x.setClimate(2, 1);
        x.lay(0);
        Check.same("21: laid by now", 3, x.nextAisle());
        x.open(2);
        Check.same("21: also while shelves move", 3, x.nextAisle());
    }

    private static void testFetchOrder() {
        Rackrail x = withBoxes(7);
        x.order(2, 9);
        x.order(1, 8);
        x.order(0, 8);
        x.order(6, 0);
        x.order(3, 0);
        x.goIn(1);
        x.goIn(2);
        Check.same("22: the earliest reached", 1, x.fetch(1));
        Check.same("22: the box is out", NONE, x.spotOf(1));
        Check.same("22: the other lies", 0, x.spotOf(0));
        Check.same("22: of several the lowest", 2, x.fetch(2));
        Check.same("22: the last here", 0, x.fetch(1));
        Check.noState("22: the others are not reached", () -> x.fetch(1));
        Check.same("24: they are open", 2, x.waiting());
    }

    private static void testFetchThrows() {
        Rackrail x = withBoxes(1);
        Check.noState("22: not inside, no order", () -> x.fetch(0));
        x.order(0, 0);
        Check.noState("22: not inside", () -> x.fetch(0));
        Check.noIndex("22: person 4", () -> x.fetch(4));
        Check.noIndex("22: person -1", () -> x.fetch(-1));
        x.goIn(1);
        Check.noState("22: another is inside", () -> x.fetch(0));
        x.smoke(true);
        Check.noState("22: out by smoke", () -> x.fetch(1));
        x.smoke(false);
        Check.same("22: nothing changed", 0, x.spotOf(0));
        Check.same("24: nothing changed", 1, x.waiting());
        x.goIn(1);
        Check.same("22: inside", 0, x.fetch(1));
        Check.noState("22: it is done", () -> x.fetch(1));
        x.order(0, 0);
        Check.noState("22: its box is out", () -> x.fetch(1));
        Check.same("24: it is open", 1, x.waiting());
    }

    private static void testGiveBack() {
        Rackrail x = withBoxes(1);
        x.addBox(2, 60, 5);
        x.goIn(3);
        Check.same("23: another climate", false, x.giveBack(3, 1, 2));
        Check.same("23: it lies there", 2, x.spotOf(1));
        x.order(1, 4);
        x.fetch(3);
        x.setClimate(0, 2);
        Check.same("23: its climate", true, x.giveBack(3, 1, 1));
        Check.same("23: it lies there", 1, x.boxAt(1));
        Check.same("23: not there any more", NONE, x.boxAt(2));
        Check.same("8: both weigh", 61, x.weight(0));
    }

    private static void testGiveBackOfAnOpenOrder() {
        Rackrail x = new Rackrail();
        x.addBox(0, 1, 0);
        x.order(0, 5);
        x.goIn(0);
        x.giveBack(0, 0, 0);
        Check.same("21: it may be fetched", 0, x.nextAisle());
        Check.same("22: at once", 0, x.fetch(0));
    }

    private static void testGiveBackNumbers() {
        Rackrail x = withBoxes(1);
        x.addBox(0, 1, 0);
        x.goIn(0);
        Check.noIndex("23: person 4", () -> bit(x.giveBack(4, 1, 1)));
        Check.noIndex("23: person -1", () -> bit(x.giveBack(-1, 1, 1)));
        Check.noIndex("23: box 2", () -> bit(x.giveBack(0, 2, 1)));
        Check.noIndex("23: box -1", () -> bit(x.giveBack(0, -1, 1)));
        Check.noIndex("23: spot 3", () -> bit(x.giveBack(0, 1, 3)));
        Check.noIndex("23: spot 20", () -> bit(x.giveBack(0, 1, 20)));
        Check.noIndex("23: spot 600", () -> bit(x.giveBack(0, 1, 600)));
        Check.noIndex("23: spot -1", () -> bit(x.giveBack(0, 1, -1)));
        Check.noIndex("23: person 1 is not inside, spot 3", () -> bit(x.giveBack(1, 1, 3)));
        Check.noIndex("23: box 0 is not out, spot 3", () -> bit(x.giveBack(0, 0, 3)));
        Check.noIndex("23: person 1 is not inside, box 2", () -> bit(x.giveBack(1, 2, 1)));
        Check.same("23: nothing changed", NONE, x.spotOf(1));
    }

    private static void testGiveBackStates() {
        Rackrail x = withBoxes(1);
        x.addBox(0, 1, 0);
        x.goIn(0);
        Check.noState("23: not inside", () -> bit(x.giveBack(1, 1, 1)));
        Check.noState("23: not out", () -> bit(x.giveBack(0, 0, 1)));
        Check.noState("23: not reached, the side 1", () -> bit(x.giveBack(0, 1, 10)));
        Check.noState("23: not reached, the shelf 1", () -> bit(x.giveBack(0, 1, 100)));
        Check.noState("23: a box lies there", () -> bit(x.giveBack(0, 1, 0)));
        Check.same("23: nothing changed", 0, x.spotOf(0));
        Check.same("23: nothing changed", NONE, x.spotOf(1));
        x.goOut(0);
        openNow(x, 6);
        x.goIn(0);
        Check.noState("23: the shelf 5 by its side 0", () -> bit(x.giveBack(0, 1, 500)));
        Check.same("23: the last spot", true, x.giveBack(0, 1, 512));
    }

    private static void testLate() {
        Rackrail x = withBoxes(3);
        x.order(0, 9);
        x.order(1, 10);
        x.order(2, 11);
        x.goIn(0);
        x.pass(10);
        Check.same("25: open ones are not yet late", 0, x.late());
        x.fetch(0);
        Check.same("25: one minute late", 1, x.late());
        x.fetch(0);
        Check.same("25: in the minute itself", 1, x.late());
        x.fetch(0);
        x.pass(100);
        Check.same("25: done before", 1, x.late());
        x.giveBack(0, 0, 0);
        x.order(0, 0);
        x.fetch(0);
        Check.same("25: late when it was entered", 2, x.late());
    }

    private static void testWaiting() {
        Rackrail x = withBoxes(2);
        Check.same("24: none", 0, x.waiting());
        x.order(0, 1);
        x.order(1, 1);
        Check.same("24: two", 2, x.waiting());
        x.goIn(0);
        x.fetch(0);
        Check.same("24: one", 1, x.waiting());
        x.fetch(0);
        Check.same("24: none any more", 0, x.waiting());
        x.order(0, 1);
        Check.same("24: also of a box that is out", 1, x.waiting());
    }

    public static void main(String[] args) {
        testOrder();
        testOrderThrows();
        testOrderAgainWhenDone();
        testThirtyOrders();
        testNextAisle();
        testNextAisleOfEverySpot();
        testNextAisleWhereBoxesAreOut();
        testFetchOrder();
        testFetchThrows();
        testGiveBack();
        testGiveBackOfAnOpenOrder();
        testGiveBackNumbers();
        testGiveBackStates();
        testLate();
        testWaiting();
        Check.end("OrdersTest");
    }
}
