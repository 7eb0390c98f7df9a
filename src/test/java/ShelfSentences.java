/** The sentences of the promises 1 to 9, on shelves and boxes, each with a test of its own. */
final class ShelfSentences {
    private static final int NONE = Rackrail.NONE;

    private ShelfSentences() {
    }

    static void all() {
        Check.sentence("Promise 1", "Creates an archive without boxes; the aisle 0 is open.",
                ShelfSentences::testNewObject);
        ofSetClimate("Promise 2");
        ofAddBox("Promise 3");
        ofBestSpot("Promise 4");
        ofLay("Promise 5");
        ofSpotOf("Promise 6");
        ofBoxAt("Promise 7");
        ofWeight("Promise 8");
        Check.sentence("Promise 9", "Returns how many boxes lie wrong: on a shelf of another climate.",
                ShelfSentences::testWrong);
    }

    private static void ofSetClimate(String promise) {
        Check.sentence(promise, "Sets the climate of a shelf.", ShelfSentences::testSetClimate);
        Check.sentence(promise, "Boxes that lie there stay.", ShelfSentences::testBoxesStay);
        Check.sentence(promise, "`shelf`: 0 to 5", ShelfSentences::testShelvesOfSetClimate);
        Check.sentence(promise, "`climate`: 0 to 2", ShelfSentences::testClimatesOfShelves);
        Check.sentence(promise, "Returns the climate before.", ShelfSentences::testClimateBefore);
        Check.sentence(promise, "Throws `IndexOutOfBoundsException` if there is no such shelf",
                ShelfSentences::testSetClimateOfNoShelf);
        Check.sentence(promise, "Throws `IllegalArgumentException` if climate is out of range",
                ShelfSentences::testSetNoClimate);
    }

    private static void ofAddBox(String promise) {
        Check.sentence(promise, "Enters a box, which is out.", ShelfSentences::testEnteredBoxIsOut);
        Check.sentence(promise, "`climate`: 0 to 2", ShelfSentences::testClimatesOfBoxes);
        Check.sentence(promise, "`weight`: 1 to 60", ShelfSentences::testWeightsOfBoxes);
        Check.sentence(promise, "`kin`: 0 to 9", ShelfSentences::testKinsOfBoxes);
        Check.sentence(promise, "Returns its number.", ShelfSentences::testNumbersOfBoxes);
        Check.sentence(promise, "Throws `IllegalArgumentException` if climate, weight or kin is out of range",
                ShelfSentences::testAddBoxOutOfRange);
        Check.sentence(promise, "Throws `IllegalStateException` if there are 20 boxes",
                ShelfSentences::testAddBoxToTwenty);
    }

    private static void ofBestSpot(String promise) {
        Check.sentence(promise, "Returns the best spot for a box.", ShelfSentences::testBestSpotOnlyTells);
        Check.sentence(promise, "`box`: the number of a box", ShelfSentences::testBestSpotOfEachBox);
        Check.sentence(promise, "Returns the spot; NONE if there is none.", ShelfSentences::testNoBestSpot);
        Check.sentence(promise, "Throws `IndexOutOfBoundsException` if there is no such box",
                ShelfSentences::testBestSpotOfNoBox);
        Check.sentence(promise, "Throws `IllegalStateException` if it is not out",
                ShelfSentences::testBestSpotOfABoxThatLies);
    }

    private static void ofLay(String promise) {
        Check.sentence(promise, "Lays a box that is out into its best spot, whatever is open, moves, or is inside: by"
                + " the staff, at night.", ShelfSentences::testLayAtAnyTime);
        Check.sentence(promise, "`box`: the number of a box", ShelfSentences::testLayEachBox);
        Check.sentence(promise, "Returns the spot.", ShelfSentences::testLayReturnsTheSpot);
        Check.sentence(promise, "Throws `IndexOutOfBoundsException` if there is no such box",
                ShelfSentences::testLayNoBox);
        Check.sentence(promise, "Throws `IllegalStateException` if it is not out, or there is no best spot",
                ShelfSentences::testLayRefused);
    }

    private static void ofSpotOf(String promise) {
        Check.sentence(promise, "Returns the spot of a box.", ShelfSentences::testSpotOf);
        Check.sentence(promise, "`box`: the number of a box", ShelfSentences::testSpotOfEachBox);
        Check.sentence(promise, "Returns the spot; NONE if it is out.", ShelfSentences::testSpotOfABoxThatIsOut);
        Check.sentence(promise, "Throws `IndexOutOfBoundsException` if there is no such box",
                ShelfSentences::testSpotOfNoBox);
    }

    private static void ofBoxAt(String promise) {
        Check.sentence(promise, "Returns the box in a spot.", ShelfSentences::testBoxAt);
        Check.sentence(promise, "`spot`: a spot", ShelfSentences::testBoxAtEachSpot);
        Check.sentence(promise, "Returns the box; NONE if there is none.", ShelfSentences::testNoBoxInASpot);
        Check.sentence(promise, "Throws `IndexOutOfBoundsException` if there is no such spot",
                ShelfSentences::testBoxAtNoSpot);
    }

    private static void ofWeight(String promise) {
        Check.sentence(promise, "Returns the weight of all boxes on a shelf.", ShelfSentences::testWeight);
        Check.sentence(promise, "`shelf`: 0 to 5", ShelfSentences::testWeightOfEachShelf);
        Check.sentence(promise, "Throws `IndexOutOfBoundsException` if there is no such shelf",
                ShelfSentences::testWeightOfNoShelf);
    }

    // ---- promise 1

    private static void testNewObject() {
        Rackrail x = new Rackrail();
        Check.same("the aisle", 0, x.opened());
        Check.same("the aisle by moves", 0, x.openedByMoves());
        for (int spot : Made.spots()) {
            Check.same("in " + spot, NONE, x.boxAt(spot));
        }
        for (int shelf = 0; shelf < 6; shelf++) {
            Check.same("on " + shelf, 0, x.weight(shelf));
        }
        Check.same("none is wrong", 0, x.wrong());
        Check.sameText("no box 0", Check.INDEX, State.answer(() -> x.spotOf(0)));
        Check.same("no order", 0, x.waiting());
        Check.same("no late order", 0, x.late());
        Check.same("no doubt", false, x.look());
        Check.same("no smoke, nobody inside", 1, x.goIn(0));
        Check.same("no stall", true, x.stall(true));
        Check.same("no time has passed", 1, x.pass(1));
    }

    // ---- promise 2

    private static void testSetClimate() {
        Rackrail x = new Rackrail();
        x.addBox(2, 1, 0);
        Check.same("no shelf suits", NONE, x.bestSpot(0));
        x.setClimate(4, 2);
        Check.same("one suits", 400, x.bestSpot(0));
        x.setClimate(4, 1);
        Check.same("not any more", NONE, x.bestSpot(0));
    }

    private static void testBoxesStay() {
        for (int climate = 0; climate < 3; climate++) {
            Rackrail x = Made.laid(7);
            x.setClimate(0, climate);
            for (int box = 0; box < 7; box++) {
                Check.same("box " + box, Made.spots()[box], x.spotOf(box));
                Check.same("in its spot", box, x.boxAt(Made.spots()[box]));
            }
            Check.same("their weight", 6, x.weight(0));
        }
    }

    private static void testShelvesOfSetClimate() {
        for (int shelf = 0; shelf < 6; shelf++) {
            Rackrail x = new Rackrail();
            x.setClimate(shelf, 1);
            for (int other = 0; other < 6; other++) {
                Check.same("of " + other + ", set of " + shelf, other == shelf ? 1 : 0, x.setClimate(other, 0));
            }
        }
    }

    private static void testClimatesOfShelves() {
        Rackrail x = new Rackrail();
        x.addBox(0, 1, 0);
        x.addBox(1, 1, 0);
        x.addBox(2, 1, 0);
        for (int climate = 0; climate < 3; climate++) {
            for (int shelf = 0; shelf < 6; shelf++) {
                x.setClimate(shelf, climate);
            }
            for (int box = 0; box < 3; box++) {
                Check.same("box " + box + " of " + climate, box == climate ? 0 : NONE, x.bestSpot(box));
            }
        }
    }

    private static void testClimateBefore() {
        for (int shelf = 0; shelf < 6; shelf++) {
            Rackrail x = new Rackrail();
            Check.same("at first", 0, x.setClimate(shelf, 2));
            Check.same("then", 2, x.setClimate(shelf, 2));
            Check.same("the same once more", 2, x.setClimate(shelf, 1));
            Check.same("then", 1, x.setClimate(shelf, 0));
            Check.same("then", 0, x.setClimate(shelf, 0));
        }
    }

    private static void testSetClimateOfNoShelf() {
        for (int shelf : Made.outside(0, 5)) {
            Check.refused("shelf " + shelf, Check.INDEX, () -> Made.laid(20), x -> x.setClimate(shelf, 1));
        }
    }

    private static void testSetNoClimate() {
        for (int climate : Made.outside(0, 2)) {
            Check.refused("climate " + climate, Check.ARGUMENT, () -> Made.laid(20), x -> x.setClimate(0, climate));
        }
    }

    // ---- promise 3

    private static void testEnteredBoxIsOut() {
        Rackrail x = Made.laid(6);
        int box = x.addBox(0, 60, 9);
        Check.same("its spot", NONE, x.spotOf(box));
        Check.same("it may be laid", 100, x.bestSpot(box));
        Check.same("it weighs nothing on a shelf", 6, x.weight(0));
        Check.same("in no spot", NONE, x.boxAt(100));
    }

    private static void testClimatesOfBoxes() {
        for (int climate = 0; climate < 3; climate++) {
            Rackrail x = new Rackrail();
            x.setClimate(1, 1);
            x.setClimate(2, 2);
            Check.same("its shelf", 100 * climate, x.lay(x.addBox(climate, 1, 0)));
        }
        Check.refused("below", Check.ARGUMENT, Rackrail::new, x -> x.addBox(-1, 1, 0));
        Check.refused("above", Check.ARGUMENT, Rackrail::new, x -> x.addBox(3, 1, 0));
    }

    private static void testWeightsOfBoxes() {
        for (int weight = 1; weight <= 60; weight++) {
            Rackrail x = new Rackrail();
            x.lay(x.addBox(0, weight, 0));
            Check.same("it weighs", weight, x.weight(0));
        }
        Check.refused("below", Check.ARGUMENT, Rackrail::new, x -> x.addBox(0, 0, 0));
        Check.refused("above", Check.ARGUMENT, Rackrail::new, x -> x.addBox(0, 61, 0));
    }

    private static void testKinsOfBoxes() {
        for (int kin = 0; kin < 10; kin++) {
            Check.same("it is entered", 0, new Rackrail().addBox(0, 1, kin));
        }
        Check.refused("below", Check.ARGUMENT, Rackrail::new, x -> x.addBox(0, 1, -1));
        Check.refused("above", Check.ARGUMENT, Rackrail::new, x -> x.addBox(0, 1, 10));
    }

    private static void testNumbersOfBoxes() {
        Rackrail x = new Rackrail();
        for (int box = 0; box < 20; box++) {
            Check.sameText("one that is refused", Check.ARGUMENT, State.answer(() -> x.addBox(0, 0, 0)));
            Check.same("the next", box, x.addBox(2, 60, 9));
            Check.same("it is known by that number", NONE, x.spotOf(box));
        }
    }

    private static void testAddBoxOutOfRange() {
        for (int climate : Made.outside(0, 2)) {
            Check.refused("climate " + climate, Check.ARGUMENT, () -> Made.laid(3), x -> x.addBox(climate, 1, 0));
        }
        for (int weight : Made.outside(1, 60)) {
            Check.refused("weight " + weight, Check.ARGUMENT, () -> Made.laid(3), x -> x.addBox(0, weight, 0));
        }
        for (int kin : Made.outside(0, 9)) {
            Check.refused("kin " + kin, Check.ARGUMENT, () -> Made.laid(3), x -> x.addBox(0, 1, kin));
        }
        Check.refused("all three", Check.ARGUMENT, () -> Made.laid(3), x -> x.addBox(3, 61, 10));
    }

    private static void testAddBoxToTwenty() {
        Check.same("the last", 19, Made.boxes(19).addBox(0, 1, 0));
        Check.refused("twenty are out", Check.STATE, () -> Made.boxes(20), x -> x.addBox(0, 1, 0));
        Check.refused("twenty lie", Check.STATE, () -> Made.laid(20), x -> x.addBox(1, 60, 9));
    }

    // ---- promise 4

    private static void testBestSpotOnlyTells() {
        Check.same("the spot", 1, bestOfOneMore(Made.laid(1)));
        Check.onlyAsks("a spot", () -> Made.boxes(3), x -> x.bestSpot(2));
    }

    private static int bestOfOneMore(Rackrail x) {
        return x.bestSpot(x.addBox(0, 1, 0));
    }

    private static void testBestSpotOfEachBox() {
        for (int count = 1; count <= 20; count++) {
            Rackrail x = Made.boxes(count);
            Check.same("the first of " + count, 0, x.bestSpot(0));
            Check.same("the last of " + count, 0, x.bestSpot(count - 1));
        }
    }

    private static void testNoBestSpot() {
        Rackrail climate = new Rackrail();
        Check.same("no such climate", NONE, climate.bestSpot(climate.addBox(2, 1, 0)));
        Check.same("no shelf bears it", NONE, sixtyOnEachShelf().bestSpot(6));
        Check.same("all spots of its climate are taken", NONE, bestOfOneMore(fullShelf()));
        Check.onlyAsks("none", ShelfSentences::sixtyOnEachShelf, x -> x.bestSpot(6));
    }

    /** The boxes 0 to 5 lie, of 60 on each shelf; the box 6, of 41, is out. */
    private static Rackrail sixtyOnEachShelf() {
        Rackrail x = new Rackrail();
        for (int box = 0; box < 6; box++) {
            x.lay(x.addBox(0, 60, 0));
        }
        x.addBox(0, 41, 0);
        return x;
    }

    /** Six light boxes on the shelf 0, the only one of their climate. */
    private static Rackrail fullShelf() {
        Rackrail x = Made.laid(6);
        for (int shelf = 1; shelf < 6; shelf++) {
            x.setClimate(shelf, 1);
        }
        return x;
    }

    private static void testBestSpotOfNoBox() {
        for (int box : Made.outside(0, 2)) {
            Check.refused("box " + box, Check.INDEX, () -> Made.boxes(3), x -> x.bestSpot(box));
        }
        Check.refused("of no boxes", Check.INDEX, Rackrail::new, x -> x.bestSpot(0));
        Check.refused("of twenty", Check.INDEX, () -> Made.boxes(20), x -> x.bestSpot(20));
    }

    private static void testBestSpotOfABoxThatLies() {
        Check.refused("it lies", Check.STATE, () -> Made.laid(1), x -> x.bestSpot(0));
        Check.refused("the last of twenty lies", Check.STATE, () -> Made.laid(20), x -> x.bestSpot(19));
        Check.refused("it was given back", Check.STATE, () -> Made.put(Made.boxes(1), 0, 512), x -> x.bestSpot(0));
    }

    // ---- promise 5

    private static void testLayAtAnyTime() {
        for (int aisle = 0; aisle < 7; aisle++) {
            Check.same("open is " + aisle, 0, layOneMore(Made.at(aisle)));
        }
        Check.same("shelves move", 0, layOneMore(Made.onTheWay(0, 6, 3)));
        Check.same("they have stopped", 0, layOneMore(Made.stalled(Made.onTheWay(0, 6, 3))));
        Check.same("all are inside", 0, layOneMore(Made.inside(new Rackrail(), 0, 1, 2, 3)));
        Check.same("smoke", 0, layOneMore(Made.smoky(new Rackrail())));
        Check.same("a doubt", 0, layOneMore(Made.doubting(new Rackrail(), 0)));
        Check.same("the end of the clock", 0, layOneMore(Made.passed(new Rackrail(), 10000)));
    }

    private static int layOneMore(Rackrail x) {
        return x.lay(x.addBox(0, 1, 0));
    }

    private static void testLayEachBox() {
        for (int box = 0; box < 20; box++) {
            Rackrail x = Made.boxes(20);
            Check.same("box " + box, 0, x.lay(box));
            Check.same("it lies there", box, x.boxAt(0));
        }
    }

    private static void testLayReturnsTheSpot() {
        Rackrail x = Made.boxes(20);
        for (int box = 19; box >= 0; box--) {
            int best = x.bestSpot(box);
            Check.same("the best", best, x.lay(box));
            Check.same("the spot", best, x.spotOf(box));
        }
        Check.same("the last", 301, x.spotOf(0));
    }

    private static void testLayNoBox() {
        for (int box : Made.outside(0, 2)) {
            Check.refused("box " + box, Check.INDEX, () -> Made.boxes(3), x -> x.lay(box));
        }
        Check.refused("of no boxes", Check.INDEX, Rackrail::new, x -> x.lay(0));
        Check.refused("of twenty", Check.INDEX, () -> Made.boxes(20), x -> x.lay(20));
    }

    private static void testLayRefused() {
        Check.refused("it lies", Check.STATE, () -> Made.laid(2), x -> x.lay(0));
        Check.refused("no shelf bears it", Check.STATE, ShelfSentences::sixtyOnEachShelf, x -> x.lay(6));
        Check.refused("no shelf of its climate", Check.STATE, ShelfSentences::otherClimate, x -> x.lay(0));
    }

    private static Rackrail otherClimate() {
        Rackrail x = new Rackrail();
        x.addBox(1, 1, 0);
        return x;
    }

    // ---- promise 6

    private static void testSpotOf() {
        for (int spot : Made.spots()) {
            Rackrail x = Made.put(Made.boxes(2), 1, spot);
            Check.same("it lies in " + spot, spot, x.spotOf(1));
        }
        Check.onlyAsks("spotOf", () -> Made.laid(2), x -> x.spotOf(1));
    }

    private static void testSpotOfEachBox() {
        Rackrail x = Made.laid(20);
        for (int box = 0; box < 20; box++) {
            Check.same("box " + box, Made.spots()[box], x.spotOf(box));
        }
    }

    private static void testSpotOfABoxThatIsOut() {
        Rackrail x = Made.ordered(Made.laid(2), 0, 0);
        Check.same("it lies", 0, x.spotOf(0));
        Made.inside(x, 0).fetch(0);
        Check.same("it is out", NONE, x.spotOf(0));
        Check.same("the other lies", 1, x.spotOf(1));
        Check.same("a new one", NONE, Made.boxes(20).spotOf(19));
    }

    private static void testSpotOfNoBox() {
        for (int box : Made.outside(0, 2)) {
            Check.refused("box " + box, Check.INDEX, () -> Made.laid(3), x -> x.spotOf(box));
        }
        Check.refused("of no boxes", Check.INDEX, Rackrail::new, x -> x.spotOf(0));
        Check.refused("of twenty", Check.INDEX, () -> Made.laid(20), x -> x.spotOf(20));
    }

    // ---- promise 7

    private static void testBoxAt() {
        Rackrail x = Made.laid(20);
        for (int box = 0; box < 20; box++) {
            Check.same("in " + Made.spots()[box], box, x.boxAt(Made.spots()[box]));
        }
        Check.onlyAsks("boxAt", () -> Made.laid(2), y -> y.boxAt(1));
    }

    private static void testBoxAtEachSpot() {
        for (int spot : Made.spots()) {
            Rackrail x = Made.put(Made.boxes(1), 0, spot);
            for (int other : Made.spots()) {
                Check.same("in " + other + ", it lies in " + spot, other == spot ? 0 : NONE, x.boxAt(other));
            }
        }
    }

    private static void testNoBoxInASpot() {
        Rackrail x = Made.ordered(Made.laid(2), 1, 0);
        Check.same("never any", NONE, x.boxAt(2));
        Made.inside(x, 0).fetch(0);
        Check.same("none any more", NONE, x.boxAt(1));
        Check.same("the other", 0, x.boxAt(0));
    }

    private static void testBoxAtNoSpot() {
        for (int spot : Made.noSpots()) {
            Check.refused("spot " + spot, Check.INDEX, () -> Made.laid(20), x -> x.boxAt(spot));
        }
        Check.refused("beside boxes that are out", Check.INDEX, () -> Made.boxes(1), x -> x.boxAt(NONE));
    }

    // ---- promise 8

    private static void testWeight() {
        Rackrail x = new Rackrail();
        int sum = 0;
        for (int box = 0; box < 6; box++) {
            x.lay(x.addBox(0, 10 + box, 0));
            sum += 10 + box;
            Check.same("of " + (box + 1), sum, x.weight(0));
        }
        Made.inside(Made.ordered(x, 2, 0), 0).fetch(0);
        Check.same("without the third", sum - 12, x.weight(0));
        x.giveBack(0, x.addBox(1, 60, 0), 2);
        Check.same("above what it bears", sum + 48, x.weight(0));
        Check.onlyAsks("weight", () -> Made.laid(2), y -> y.weight(0));
    }

    private static void testWeightOfEachShelf() {
        for (int spot : Made.spots()) {
            Rackrail x = Made.put(Made.boxes(2), 0, spot);
            for (int shelf = 0; shelf < 6; shelf++) {
                Check.same("on " + shelf + ", it lies in " + spot, shelf == spot / 100 ? 1 : 0, x.weight(shelf));
            }
        }
    }

    private static void testWeightOfNoShelf() {
        for (int shelf : Made.outside(0, 5)) {
            Check.refused("shelf " + shelf, Check.INDEX, () -> Made.laid(20), x -> x.weight(shelf));
        }
    }

    // ---- promise 9

    private static void testWrong() {
        Check.same("no boxes", 0, new Rackrail().wrong());
        Rackrail out = new Rackrail();
        out.addBox(1, 1, 0);
        Check.same("it is out", 0, out.wrong());
        Rackrail x = Made.laid(20);
        Check.same("all lie right", 0, x.wrong());
        for (int shelf = 0; shelf < 6; shelf++) {
            x.setClimate(shelf, 2);
            Check.same("wrong on 0 to " + shelf, Math.min(20, 6 * (shelf + 1)), x.wrong());
        }
        x.setClimate(0, 0);
        Check.same("right again", 14, x.wrong());
        Rackrail heavy = Made.inside(Made.laid(1), 0);
        heavy.giveBack(0, heavy.addBox(0, 60, 0), 1);
        heavy.giveBack(0, heavy.addBox(0, 60, 0), 2);
        Check.same("too heavy is not wrong", 0, heavy.wrong());
        Check.onlyAsks("wrong", () -> Made.laid(2), Rackrail::wrong);
    }
}
