/** Promises 1 to 9: a new object, shelves and boxes. */
public final class ShelvesTest {
    private static final int NONE = Rackrail.NONE;

    private static void fill(Rackrail x, int boxes) {
        for (int box = 0; box < boxes; box++) {
            Check.same("addBox no. " + box, box, x.addBox(0, 1, 0));
        }
    }

    private static void testNewObject() {
        Rackrail x = new Rackrail();
        Check.same("1: opened", 0, x.opened());
        Check.same("1: openedByMoves", 0, x.openedByMoves());
        Check.same("1: wrong", 0, x.wrong());
        Check.same("1: nextAisle", NONE, x.nextAisle());
        Check.same("1: waiting", 0, x.waiting());
        Check.same("1: late", 0, x.late());
        Check.same("1: look", false, x.look());
        Check.same("1: stall", false, x.stall(false));
        Check.same("1: smoke", 0, x.smoke(true));
        Check.noIndex("1: spotOf", () -> x.spotOf(0));
        for (int shelf = 0; shelf < 6; shelf++) {
            Check.same("1: weight", 0, x.weight(shelf));
            Check.same("1: setClimate", 0, x.setClimate(shelf, 0));
            for (int place = 0; place < 6; place++) {
                Check.same("1: boxAt", NONE, x.boxAt(100 * shelf + 10 * (place / 3) + place % 3));
            }
        }
        Check.same("1: pass", 1, x.pass(1));
    }

    private static void testTwoObjectsAreApart() {
        Rackrail x = new Rackrail();
        Rackrail y = new Rackrail();
        x.addBox(0, 1, 0);
        x.setClimate(0, 2);
        x.open(3);
        Check.same("1: the other's first box", 0, y.addBox(1, 1, 0));
        Check.same("1: the other's climate", 0, y.setClimate(0, 0));
        Check.same("1: the other's aisle", 0, y.opened());
    }

    private static void testSetClimate() {
        Rackrail x = new Rackrail();
        Check.same("2: the first climate", 0, x.setClimate(0, 2));
        Check.same("2: the climate before", 2, x.setClimate(0, 1));
        Check.same("2: the same again", 1, x.setClimate(0, 1));
        Check.same("2: it stayed", 1, x.setClimate(0, 0));
        Check.same("2: another shelf", 0, x.setClimate(5, 2));
        Check.same("2: another shelf", 2, x.setClimate(5, 0));
    }

    private static void testSetClimateLetsBoxesStay() {
        Rackrail x = new Rackrail();
        x.addBox(0, 30, 0);
        x.lay(0);
        x.setClimate(0, 1);
        Check.same("2: the box stays", 0, x.spotOf(0));
        Check.same("2: and its spot", 0, x.boxAt(0));
        Check.same("2: and its weight", 30, x.weight(0));
    }

    private static void testSetClimateThrows() {
        Rackrail x = new Rackrail();
        Check.noIndex("2: shelf 6", () -> x.setClimate(6, 0));
        Check.noIndex("2: shelf -1", () -> x.setClimate(-1, 0));
        Check.noIndex("2: the greatest shelf", () -> x.setClimate(Integer.MAX_VALUE, 0));
        Check.noIndex("2: the least shelf", () -> x.setClimate(Integer.MIN_VALUE, 0));
        Check.noArgument("2: climate 3", () -> x.setClimate(0, 3));
        Check.noArgument("2: climate -1", () -> x.setClimate(0, -1));
        Check.noIndex("2: both wrong", () -> x.setClimate(6, 3));
        Check.same("2: nothing changed", 0, x.setClimate(0, 0));
    }

    private static void testAddBox() {
        Rackrail x = new Rackrail();
        Check.same("3: the least of all", 0, x.addBox(0, 1, 0));
        Check.same("3: the most of all", 1, x.addBox(2, 60, 9));
        Check.same("3: it is out", NONE, x.spotOf(1));
        Check.noIndex("3: no further box", () -> x.spotOf(2));
    }

    private static void testAddBoxThrows() {
        Rackrail x = new Rackrail();
        Check.noArgument("3: climate -1", () -> x.addBox(-1, 1, 0));
        Check.noArgument("3: climate 3", () -> x.addBox(3, 1, 0));
        Check.noArgument("3: weight 0", () -> x.addBox(0, 0, 0));
        Check.noArgument("3: weight -1", () -> x.addBox(0, -1, 0));
        Check.noArgument("3: weight 61", () -> x.addBox(0, 61, 0));
        Check.noArgument("3: kin -1", () -> x.addBox(0, 1, -1));
        Check.noArgument("3: kin 10", () -> x.addBox(0, 1, 10));
        Check.same("3: none entered", 0, x.addBox(0, 1, 0));
        Rackrail y = new Rackrail();
        fill(y, 20);
        Check.noState("3: the 21st box", () -> y.addBox(0, 1, 0));
        Check.noArgument("3: the 21st box, and wrong", () -> y.addBox(0, 61, 0));
        Check.noIndex("3: no box 20", () -> y.spotOf(20));
        Check.same("3: the box 19", NONE, y.spotOf(19));
    }

    private static void testBestSpotByClimateAndWeight() {
        Rackrail x = new Rackrail();
        x.addBox(0, 60, 0);
        x.addBox(0, 41, 1);
        x.addBox(0, 40, 2);
        x.addBox(2, 1, 0);
        Check.same("4: the lowest spot", 0, x.bestSpot(0));
        Check.same("4: it was only asked", NONE, x.spotOf(0));
        x.lay(0);
        Check.same("4: 101 are too much", 100, x.bestSpot(1));
        Check.same("4: 100 are not", 1, x.bestSpot(2));
        Check.same("4: no shelf of its climate", NONE, x.bestSpot(3));
        x.setClimate(4, 2);
        x.setClimate(3, 2);
        Check.same("4: the lowest of its climate", 300, x.bestSpot(3));
    }

    private static void testBestSpotByKin() {
        Rackrail x = new Rackrail();
        x.addBox(0, 60, 1);
        x.addBox(0, 60, 2);
        x.addBox(0, 10, 2);
        x.addBox(0, 10, 3);
        x.addBox(0, 10, 2);
        x.lay(0);
        Check.same("4: too heavy for the shelf 0", 100, x.bestSpot(1));
        x.lay(1);
        Check.same("4: most of its kin", 101, x.bestSpot(2));
        Check.same("4: none of its kin", 1, x.bestSpot(3));
        x.setClimate(1, 1);
        Check.same("4: its kin lies in another climate", 1, x.bestSpot(2));
        x.lay(2);
        x.setClimate(1, 0);
        Check.same("4: as much kin on both: the lowest", 2, x.bestSpot(4));
        x.addBox(0, 10, 2);
        x.setClimate(0, 1);
        Check.same("4: one more on the shelf 1", 101, x.lay(5));
        x.setClimate(0, 0);
        Check.same("4: two against one", 102, x.bestSpot(4));
    }

    private static void testBestSpotByKinOfTheFirstBox() {
        Rackrail x = new Rackrail();
        x.addBox(0, 1, 4);
        x.addBox(0, 1, 4);
        x.setClimate(0, 1);
        Check.same("5: the shelf 1", 100, x.lay(0));
        x.setClimate(0, 0);
        Check.same("4: one of its kin wins over none", 101, x.bestSpot(1));
    }

    private static void testBestSpotPassesAFullShelf() {
        Rackrail x = new Rackrail();
        fill(x, 8);
        int[] spots = {0, 1, 2, 10, 11, 12, 100};
        for (int box = 0; box < spots.length; box++) {
            Check.same("4: bestSpot in a row", spots[box], x.bestSpot(box));
            Check.same("5: lay in a row", spots[box], x.lay(box));
        }
        Check.same("4: six of its kin, but full", 101, x.bestSpot(7));
    }

    private static void testTwentyBoxes() {
        Rackrail x = new Rackrail();
        fill(x, 20);
        for (int box = 0; box < 20; box++) {
            int spot = 100 * (box / 6) + 10 * (box % 6 / 3) + box % 3;
            Check.same("4: bestSpot of 20, no. " + box, spot, x.bestSpot(box));
            Check.same("5: lay of 20, no. " + box, spot, x.lay(box));
        }
        Check.same("7: the last box", 19, x.boxAt(301));
        Check.same("7: the next spot", NONE, x.boxAt(302));
        Check.same("8: the last shelf", 2, x.weight(3));
        x.setClimate(3, 1);
        Check.same("9: the last two", 2, x.wrong());
    }

    private static void testBestSpotOnAHeavyShelf() {
        Rackrail x = new Rackrail();
        x.setClimate(0, 1);
        for (int box = 0; box < 3; box++) {
            x.addBox(0, 60, 0);
        }
        x.goIn(0);
        x.giveBack(0, 0, 0);
        x.giveBack(0, 1, 1);
        x.setClimate(0, 0);
        Check.same("4: no more on what bears too much", 100, x.bestSpot(2));
    }

    private static void testBestSpotNoneAtAll() {
        Rackrail x = new Rackrail();
        for (int box = 0; box < 7; box++) {
            x.addBox(0, 60, 0);
        }
        for (int box = 0; box < 6; box++) {
            Check.same("5: a shelf each", 100 * box, x.lay(box));
        }
        Check.same("4: no shelf bears it", NONE, x.bestSpot(6));
        Check.noState("5: no best spot", () -> x.lay(6));
        Check.same("5: it is out still", NONE, x.spotOf(6));
    }

    private static void testBestSpotAndLayThrow() {
        Rackrail x = new Rackrail();
        Check.noIndex("4: no box 0", () -> x.bestSpot(0));
        Check.noIndex("5: no box 0", () -> x.lay(0));
        x.addBox(0, 1, 0);
        Check.noIndex("4: box 1", () -> x.bestSpot(1));
        Check.noIndex("4: box -1", () -> x.bestSpot(-1));
        Check.noIndex("5: box 1", () -> x.lay(1));
        Check.noIndex("5: box -1", () -> x.lay(-1));
        x.lay(0);
        Check.noState("4: not out", () -> x.bestSpot(0));
        Check.noState("5: not out", () -> x.lay(0));
        Check.same("5: nothing changed", 0, x.spotOf(0));
    }

    private static void testLayWhateverIsOpen() {
        Rackrail x = new Rackrail();
        fill(x, 3);
        x.goIn(0);
        Check.same("5: with one inside", 0, x.lay(0));
        x.smoke(true);
        Check.same("5: in smoke", 1, x.lay(1));
        x.smoke(false);
        x.open(4);
        x.stall(true);
        Check.same("5: while shelves move", 2, x.lay(2));
        Check.same("5: nothing opened by that", NONE, x.opened());
    }

    private static void testSpotOfAndBoxAt() {
        Rackrail x = new Rackrail();
        fill(x, 2);
        x.setClimate(0, 1);
        x.lay(1);
        Check.same("6: laid", 100, x.spotOf(1));
        Check.same("6: out", NONE, x.spotOf(0));
        Check.same("7: the box", 1, x.boxAt(100));
        Check.same("7: none", NONE, x.boxAt(0));
        Check.noIndex("6: box 2", () -> x.spotOf(2));
        Check.noIndex("6: box -1", () -> x.spotOf(-1));
        Check.noIndex("6: the least box", () -> x.spotOf(Integer.MIN_VALUE));
        x.order(1, 5);
        x.open(1);
        x.pass(1);
        x.goIn(0);
        x.fetch(0);
        Check.same("6: fetched", NONE, x.spotOf(1));
        Check.same("7: fetched", NONE, x.boxAt(100));
        x.giveBack(0, 1, 12);
        Check.same("6: given back", 12, x.spotOf(1));
        Check.same("7: given back", 1, x.boxAt(12));
    }

    private static void testEverySpot() {
        for (int shelf = -1; shelf < 8; shelf++) {
            Rackrail x = new Rackrail();
            for (int rest = 0; rest < 100; rest++) {
                int spot = 100 * shelf + rest;
                if (shelf >= 0 && shelf < 6 && rest < 20 && rest % 10 < 3) {
                    Check.same("7: boxAt " + spot, NONE, x.boxAt(spot));
                } else {
                    Check.noIndex("7: boxAt " + spot, () -> x.boxAt(spot));
                }
            }
        }
        Rackrail x = new Rackrail();
        Check.noIndex("7: the greatest spot", () -> x.boxAt(Integer.MAX_VALUE));
        Check.noIndex("7: the least spot", () -> x.boxAt(Integer.MIN_VALUE));
    }

    private static void testWeight() {
        Rackrail x = new Rackrail();
        x.addBox(0, 50, 0);
        x.addBox(0, 50, 0);
        x.addBox(0, 7, 0);
        Check.same("8: those that are out weigh nothing", 0, x.weight(0));
        x.lay(0);
        x.lay(1);
        x.lay(2);
        Check.same("8: a shelf", 100, x.weight(0));
        Check.same("8: the next", 7, x.weight(1));
        Check.same("8: the last", 0, x.weight(5));
        x.goIn(2);
        x.order(0, 0);
        x.fetch(2);
        Check.same("8: one less", 50, x.weight(0));
        Check.noIndex("8: shelf 6", () -> x.weight(6));
        Check.noIndex("8: shelf -1", () -> x.weight(-1));
    }

    private static void testWeightOfBothSidesAndTooMuch() {
        Rackrail x = new Rackrail();
        for (int box = 0; box < 3; box++) {
            x.addBox(0, 60, 0);
        }
        x.lay(0);
        x.open(1);
        x.pass(1);
        x.goIn(0);
        Check.same("23: no weight is asked", true, x.giveBack(0, 1, 10));
        Check.same("8: both sides", 120, x.weight(0));
        x.giveBack(0, 2, 12);
        Check.same("8: and more", 180, x.weight(0));
        Check.same("9: too heavy is not wrong", 0, x.wrong());
    }

    private static void testWrong() {
        Rackrail x = new Rackrail();
        x.addBox(0, 1, 0);
        x.addBox(0, 1, 0);
        x.addBox(1, 1, 0);
        Check.same("9: out is not wrong", 0, x.wrong());
        x.lay(0);
        x.lay(1);
        Check.same("9: none", 0, x.wrong());
        x.setClimate(0, 1);
        Check.same("9: both", 2, x.wrong());
        x.lay(2);
        Check.same("9: not the third", 2, x.wrong());
        x.setClimate(0, 0);
        Check.same("9: the third only", 1, x.wrong());
        x.goIn(0);
        x.order(2, 0);
        x.fetch(0);
        Check.same("9: out again", 0, x.wrong());
        Check.same("23: another climate", false, x.giveBack(0, 2, 2));
        Check.same("9: given back wrong", 1, x.wrong());
    }

    public static void main(String[] args) {
        testNewObject();
        testTwoObjectsAreApart();
        testSetClimate();
        testSetClimateLetsBoxesStay();
        testSetClimateThrows();
        testAddBox();
        testAddBoxThrows();
        testBestSpotByClimateAndWeight();
        testBestSpotByKin();
        testBestSpotByKinOfTheFirstBox();
        testBestSpotPassesAFullShelf();
        testTwentyBoxes();
        testBestSpotOnAHeavyShelf();
        testBestSpotNoneAtAll();
        testBestSpotAndLayThrow();
        testLayWhateverIsOpen();
        testSpotOfAndBoxAt();
        testEverySpot();
        testWeight();
        testWeightOfBothSidesAndTooMuch();
        testWrong();
        Check.end("ShelvesTest");
    }
}
