/** The sentences of the section "Terms", and that on the 512 calls, each with a test of its own. */
final class TermSentences {
    private static final int NONE = Rackrail.NONE;
    private static final String TERMS = "Terms";

    private TermSentences() {
    }

    static void all() {
        Check.sentence("What it is", "An object is used for at most 512 calls after it has been made; what later calls"
                + " answer is free.", TermSentences::testTheLastOf512Calls);
        Check.sentence(TERMS, "A call that throws an exception changes nothing; if several exceptions apply, the one"
                + " that its throws clause names first is thrown.", TermSentences::testSeveralExceptions);
        Check.sentence(TERMS, "Shelves are 0 to 5, on one rail from the left to the right; aisles are 0 to 6: the"
                + " aisle a is at the left of the shelf a, and at the right of the shelf a - 1 (the aisle 0 at the"
                + " left of all, 6 at the right of all).", TermSentences::testEndsOfTheRail);
        Check.sentence(TERMS, "A shelf has two sides, 0 at its left and 1 at its right, with the places 0 to 2 on"
                + " each.", TermSentences::testSidesAndPlaces);
        Check.sentence(TERMS, "A spot is a shelf, a side and a place, told as 100 * shelf + 10 * side + place; spots"
                + " are ordered by these numbers.", TermSentences::testOrderOfSpots);
        Check.sentence(TERMS, "From the aisle a one reaches the side 0 of the shelf a and the side 1 of the shelf"
                + " a - 1.", TermSentences::testReach);
        Check.sentence(TERMS, "Each shelf has a climate from 0 to 2, 0 at first, and bears 100 of weight at the most,"
                + " with both sides.", TermSentences::testWhatAShelfBears);
        Check.sentence(TERMS, "One aisle is open, 0 at first, or none while shelves move.",
                TermSentences::testOneAisleOrNone);
        Check.sentence(TERMS, "To open another aisle, as many shelves move as both numbers differ, one in each minute,"
                + " if the motor does not stall and there is no smoke (when that is over, they go on); when the last"
                + " of them has moved, the aisle is open.", TermSentences::testMoving);
        Check.sentence(TERMS, "An aisle, also the one that is open, may only be opened if nobody is inside, the sensor"
                + " of the aisle that is open has no doubt, nothing moves or has stopped on the way, the motor does"
                + " not stall, and there is no smoke.", TermSentences::testMayBeOpened);
        Check.sentence(TERMS, "People are 0 to 3.", TermSentences::testPeople);
        Check.sentence(TERMS, "A person may go in if an aisle is open and there is no smoke; it is inside until it"
                + " goes out.", TermSentences::testInsideUntilOut);
        Check.sentence(TERMS, "The sensor of an aisle may come to doubt whether somebody is in it; a look into it,"
                + " which can be had if that aisle is open, ends its doubt.", TermSentences::testLookEndsDoubt);
        Check.sentence(TERMS, "Boxes are numbered from 0, up to 20.", TermSentences::testTwentyBoxes);
        Check.sentence(TERMS, "A box has a climate, a weight and a kin from 0 to 9.", TermSentences::testTenKins);
        Check.sentence(TERMS, "It lies in a spot, or is out.", TermSentences::testLiesOrIsOut);
        Check.sentence(TERMS, "The best spot for a box that is out is a spot without a box, on a shelf of its climate"
                + " that bears it beside what lies there; of these one on a shelf with the most boxes of its kin; of"
                + " several the lowest one.", TermSentences::testBestSpot);
        Check.sentence(TERMS, "A box may be put in the wrong spot: there nothing is asked of climate and weight.",
                TermSentences::testWrongSpot);
        Check.sentence(TERMS, "Orders are numbered from 0, up to 30.", TermSentences::testThirtyOrders);
        Check.sentence(TERMS, "An order is for a box, with a deadline; a box has at most one order that is open.",
                TermSentences::testOneOpenOrder);
        Check.sentence(TERMS, "The next aisle is that from which one reaches the box of the open order with the"
                + " earliest deadline (of several the lowest order), of those whose boxes lie in spots; NONE if there"
                + " is none.", TermSentences::testNextAisle);
        Check.sentence(TERMS, "A person who is inside may fetch: of the open orders whose boxes one reaches from the"
                + " open aisle, that with the earliest deadline (of several the lowest order) is done, and its box is"
                + " out.", TermSentences::testFetch);
        Check.sentence(TERMS, "It is late if the clock is above its deadline then.", TermSentences::testLate);
        Check.sentence(TERMS, "A box that is out may be given back by a person inside, to a spot that one reaches from"
                + " the open aisle.", TermSentences::testGiveBack);
        Check.sentence(TERMS, "The constants: `NONE = -1`: None.", TermSentences::testNone);
    }

    private static void testTheLastOf512Calls() {
        Rackrail x = new Rackrail();
        for (int call = 0; call < 508; call += 4) {
            int person = call / 4 % 4;
            Check.same("in", 1, x.goIn(person));
            Check.same("doubt", true, x.doubt(0));
            Check.same("look", true, x.look());
            Check.same("out", 0, x.goOut(person));
        }
        Check.same("call 509", 0, x.addBox(0, 60, 0));
        Check.same("call 510", 0, x.lay(0));
        Check.same("call 511", 0, x.boxAt(0));
        Check.same("call 512", 60, x.weight(0));
    }

    private static void testSeveralExceptions() {
        Check.refused("shelf and climate", Check.INDEX, Rackrail::new, x -> x.setClimate(6, 3));
        Check.refused("climate of 20 boxes", Check.ARGUMENT, () -> Made.boxes(20), x -> x.addBox(3, 1, 0));
        Check.refused("weight of 20 boxes", Check.ARGUMENT, () -> Made.boxes(20), x -> x.addBox(0, 61, 0));
        Check.refused("kin of 20 boxes", Check.ARGUMENT, () -> Made.boxes(20), x -> x.addBox(0, 1, 10));
        Check.refused("box, none lies or is out", Check.INDEX, Rackrail::new, x -> x.bestSpot(0));
        Check.refused("box, none to lay", Check.INDEX, Rackrail::new, x -> x.lay(0));
        Check.refused("minutes at the clock's end", Check.ARGUMENT, () -> Made.passed(new Rackrail(), 10000),
                x -> x.pass(101));
        Check.refused("no minutes at the clock's end", Check.ARGUMENT, () -> Made.passed(new Rackrail(), 10000),
                x -> x.pass(0));
        testSeveralExceptionsOfAislesAndPeople();
        testSeveralExceptionsOfOrders();
        testSeveralExceptionsOfGiveBack();
    }

    private static void testSeveralExceptionsOfAislesAndPeople() {
        Check.refused("aisle, one inside", Check.INDEX, () -> Made.inside(new Rackrail(), 0), x -> x.open(7));
        Check.refused("aisle, a doubt", Check.INDEX, () -> Made.doubting(new Rackrail(), 0), x -> x.open(-1));
        Check.refused("aisle, on the way", Check.INDEX, () -> Made.onTheWay(0, 3, 1), x -> x.open(7));
        Check.refused("aisle, stalled", Check.INDEX, () -> Made.stalled(new Rackrail()), x -> x.open(-1));
        Check.refused("aisle, smoke", Check.INDEX, () -> Made.smoky(new Rackrail()), x -> x.open(7));
        Check.refused("person to go in, on the way", Check.INDEX, () -> Made.onTheWay(0, 3, 1), x -> x.goIn(4));
        Check.refused("person to go in, smoke", Check.INDEX, () -> Made.smoky(new Rackrail()), x -> x.goIn(-1));
        Check.refused("person to go in, all are", Check.INDEX, () -> Made.inside(new Rackrail(), 0, 1, 2, 3),
                x -> x.goIn(4));
        Check.refused("person to go out, nobody is in", Check.INDEX, Rackrail::new, x -> x.goOut(4));
        Check.refused("person to fetch, nobody is in", Check.INDEX, Rackrail::new, x -> x.fetch(4));
        Check.refused("person to fetch, no order", Check.INDEX, () -> Made.inside(new Rackrail(), 0), x -> x.fetch(-1));
    }

    private static void testSeveralExceptionsOfOrders() {
        Check.refused("box and deadline", Check.INDEX, Rackrail::new, x -> x.order(0, -1));
        Check.refused("box and 30 orders", Check.INDEX, () -> Made.ordersDone(30), x -> x.order(2, 0));
        Check.refused("box, deadline and 30 orders", Check.INDEX, () -> Made.ordersDone(30), x -> x.order(-1, 10001));
        Check.refused("deadline and an open order", Check.ARGUMENT, () -> Made.ordered(Made.boxes(1), 0, 5),
                x -> x.order(0, 10001));
        Check.refused("deadline and 30 orders", Check.ARGUMENT, () -> Made.ordersDone(30), x -> x.order(1, -1));
        Check.refused("an open order and 30 orders", Check.STATE, () -> Made.ordered(Made.ordersDone(29), 1, 5),
                x -> x.order(1, 5));
    }

    /** Box 0 lies in 0, box 1 is out, nobody is inside but where it is said. */
    private static void testSeveralExceptionsOfGiveBack() {
        Check.refused("person, a box that lies", Check.INDEX, TermSentences::someOut, x -> x.giveBack(4, 0, 1));
        Check.refused("person, not reached", Check.INDEX, TermSentences::someOut, x -> x.giveBack(-1, 1, 10));
        Check.refused("person, taken", Check.INDEX, TermSentences::someOut, x -> x.giveBack(4, 1, 0));
        Check.refused("box, nobody inside", Check.INDEX, TermSentences::someOut, x -> x.giveBack(0, 2, 1));
        Check.refused("box, not reached", Check.INDEX, () -> Made.inside(someOut(), 0), x -> x.giveBack(0, -1, 10));
        Check.refused("box, taken", Check.INDEX, () -> Made.inside(someOut(), 0), x -> x.giveBack(0, 2, 0));
        Check.refused("spot, nobody inside", Check.INDEX, TermSentences::someOut, x -> x.giveBack(0, 1, 3));
        Check.refused("spot, a box that lies", Check.INDEX, () -> Made.inside(someOut(), 0), x -> x.giveBack(0, 0, 3));
        Check.refused("all three, on the way", Check.INDEX, () -> Made.onTheWay(0, 2, 1), x -> x.giveBack(4, 0, 600));
        Check.refused("all states", Check.STATE, TermSentences::someOut, x -> x.giveBack(0, 0, 100));
    }

    private static Rackrail someOut() {
        Rackrail x = Made.laid(1);
        x.addBox(0, 1, 0);
        return x;
    }

    private static void testEndsOfTheRail() {
        for (int shelf = 0; shelf < 6; shelf++) {
            Check.same("shelf " + shelf, 0, new Rackrail().weight(shelf));
            Check.same("at its left", true, reaches(shelf, 100 * shelf));
            Check.same("at its right", true, reaches(shelf + 1, 100 * shelf + 10));
        }
        for (int aisle = 0; aisle < 7; aisle++) {
            Check.same("aisle " + aisle, aisle, new Rackrail().open(aisle));
        }
        Check.refused("no shelf left of all", Check.INDEX, Rackrail::new, x -> x.weight(-1));
        Check.refused("no shelf right of all", Check.INDEX, Rackrail::new, x -> x.weight(6));
        Check.refused("no aisle left of 0", Check.INDEX, Rackrail::new, x -> x.open(-1));
        Check.refused("no aisle right of 6", Check.INDEX, Rackrail::new, x -> x.open(7));
        for (int spot : Made.spots()) {
            Check.same("the aisle 0 reaches " + spot, spot <= 2, reaches(0, spot));
            Check.same("the aisle 6 reaches " + spot, spot >= 510, reaches(6, spot));
        }
    }

    /** Whether a box may be given back to the spot when the aisle is open. */
    private static boolean reaches(int aisle, int spot) {
        Rackrail x = Made.inside(Made.go(Made.boxes(1), aisle), 0);
        return !State.answer(() -> x.giveBack(0, 0, spot)).startsWith("throws.");
    }

    private static void testSidesAndPlaces() {
        for (int shelf = 0; shelf < 6; shelf++) {
            Rackrail x = new Rackrail();
            for (int side = 0; side < 10; side++) {
                for (int place = 0; place < 10; place++) {
                    int spot = 100 * shelf + 10 * side + place;
                    String due = side < 2 && place < 3 ? "-1" : Check.INDEX;
                    Check.sameText("boxAt " + spot, due, State.answer(() -> x.boxAt(spot)));
                }
            }
        }
        Check.same("the side 0 is at the left", 0, Made.ordered(Made.laid(3), 2, 0).nextAisle());
        Check.same("the side 1 is at the right", 1, Made.ordered(Made.laid(4), 3, 0).nextAisle());
    }

    private static void testOrderOfSpots() {
        int[] spots = Made.spots();
        Rackrail low = Made.boxes(20);
        Rackrail high = Made.boxes(18);
        for (int shelf = 0; shelf < 3; shelf++) {
            high.setClimate(shelf, 1);
        }
        for (int box = 0; box < 20; box++) {
            Check.same("the lowest that is free", spots[box], low.lay(box));
            Check.same("what lies there", box, low.boxAt(spots[box]));
        }
        for (int box = 0; box < 18; box++) {
            Check.same("the lowest of the right half", spots[18 + box], high.lay(box));
            Check.same("where it lies", spots[18 + box], high.spotOf(box));
        }
        Check.same("the last spot", 512, high.spotOf(17));
    }

    private static void testReach() {
        for (int aisle = 0; aisle < 7; aisle++) {
            for (int spot : Made.spots()) {
                boolean due = spot / 100 == aisle && spot % 100 < 10 || spot / 100 == aisle - 1 && spot % 100 >= 10;
                Check.same("giveBack to " + spot + " from " + aisle, due, reaches(aisle, spot));
                Check.same("fetch of " + spot + " from " + aisle, due, fetches(aisle, spot));
            }
        }
    }

    private static boolean fetches(int aisle, int spot) {
        Rackrail x = Made.ordered(Made.put(Made.boxes(1), 0, spot), 0, 0);
        Made.inside(Made.go(x, aisle), 1);
        return !State.answer(() -> x.fetch(1)).startsWith("throws.");
    }

    private static void testWhatAShelfBears() {
        Rackrail x = new Rackrail();
        for (int shelf = 0; shelf < 6; shelf++) {
            Check.same("the first climate", 0, x.setClimate(shelf, shelf % 3));
            Check.same("the climate then", shelf % 3, x.setClimate(shelf, 0));
        }
        int[] weights = {25, 25, 25, 24, 2, 1, 1};
        int[] spots = {0, 1, 2, 10, 100, 11, 101};
        for (int box = 0; box < weights.length; box++) {
            x.addBox(0, weights[box], 0);
            Check.same("the spot of box " + box, spots[box], x.lay(box));
        }
        Check.same("all that it bears", 100, x.weight(0));
    }

    private static void testOneAisleOrNone() {
        Rackrail x = new Rackrail();
        Check.same("at first", 0, x.opened());
        x.open(6);
        for (int minute = 0; minute < 6; minute++) {
            Check.same("after " + minute, NONE, x.opened());
            x.pass(1);
        }
        Check.same("when they have moved", 6, x.opened());
    }

    private static void testMoving() {
        for (int from = 0; from < 7; from++) {
            for (int to = 0; to < 7; to++) {
                int way = Math.abs(from - to);
                for (int done = 0; done < way; done++) {
                    goesOnAfter(Made.onTheWay(from, to, done), to, way - done);
                }
                if (way > 0) {
                    Check.same(from + " to " + to + " at once", to, Made.onTheWay(from, to, way).opened());
                    Check.same(from + " to " + to + " and more", to, Made.onTheWay(from, to, 100).opened());
                }
            }
        }
    }

    /** Neither a stall nor smoke nor both let a shelf move; when they are over, each minute moves one. */
    private static void goesOnAfter(Rackrail x, int to, int minutes) {
        x.stall(true);
        x.pass(50);
        Check.same("stalled", NONE, x.opened());
        x.smoke(true);
        x.pass(50);
        x.stall(false);
        x.pass(50);
        Check.same("smoke", NONE, x.opened());
        x.smoke(false);
        for (int minute = 0; minute < minutes; minute++) {
            Check.same("on the way to " + to, NONE, x.opened());
            x.pass(1);
        }
        Check.same("the way is over", to, x.opened());
    }

    private static void testMayBeOpened() {
        for (int at = 0; at < 7; at++) {
            for (int to = 0; to < 7; to++) {
                mayBeOpened(at, to);
            }
        }
        Check.refused("moves, not yet in a minute", Check.STATE, () -> Made.onTheWay(0, 3, 0), x -> x.open(3));
        Check.refused("moves to the same", Check.STATE, () -> Made.onTheWay(0, 3, 2), x -> x.open(3));
        Check.refused("moves, another", Check.STATE, () -> Made.onTheWay(6, 3, 2), x -> x.open(4));
        Check.refused("stopped by a stall", Check.STATE, () -> Made.stalled(Made.onTheWay(0, 3, 1)), x -> x.open(1));
        Check.refused("stopped by smoke", Check.STATE, () -> Made.smoky(Made.onTheWay(0, 3, 1)), x -> x.open(1));
        Check.refused("all at once", Check.STATE, () -> Made.stalled(Made.doubting(Made.inside(new Rackrail(), 0), 0)),
                x -> x.open(0));
    }

    private static void mayBeOpened(int at, int to) {
        String what = at + " to " + to;
        for (int person = 0; person < 4; person++) {
            int it = person;
            Check.refused(what + ", inside", Check.STATE, () -> Made.inside(Made.at(at), it), x -> x.open(to));
        }
        Check.refused(what + ", doubt", Check.STATE, () -> Made.doubting(Made.at(at), at), x -> x.open(to));
        Check.refused(what + ", stalled", Check.STATE, () -> Made.stalled(Made.at(at)), x -> x.open(to));
        Check.refused(what + ", smoke", Check.STATE, () -> Made.smoky(Made.at(at)), x -> x.open(to));
        Rackrail x = Made.at(at);
        for (int aisle = 0; aisle < 7; aisle++) {
            if (aisle != at) {
                x.doubt(aisle);
            }
        }
        Check.same(what + ", other sensors doubt", Math.abs(at - to), x.open(to));
    }

    private static void testPeople() {
        Rackrail x = new Rackrail();
        for (int person = 0; person < 4; person++) {
            Check.same("person " + person, person + 1, x.goIn(person));
        }
        for (int person : Made.outside(0, 3)) {
            Check.refused("goIn of " + person, Check.INDEX, Rackrail::new, y -> y.goIn(person));
        }
    }

    private static void testInsideUntilOut() {
        Rackrail x = Made.inside(Made.at(4), 2);
        x.pass(100);
        x.stall(true);
        x.doubt(4);
        x.look();
        x.stall(false);
        Check.sameText("it is inside still", Check.STATE, State.answer(() -> x.goIn(2)));
        Check.same("it goes out", 0, x.goOut(2));
        Check.sameText("it is out", Check.STATE, State.answer(() -> x.goOut(2)));
        Check.same("it may go in again", 1, x.goIn(2));
        Check.same("a doubt and a stall do not hinder it", 1, Made.stalled(Made.doubting(Made.at(4), 4)).goIn(2));
        Check.refused("none is open", Check.STATE, () -> Made.onTheWay(4, 3, 0), y -> y.goIn(2));
        Check.refused("smoke", Check.STATE, () -> Made.smoky(Made.at(4)), y -> y.goIn(2));
    }

    private static void testLookEndsDoubt() {
        for (int aisle = 0; aisle < 7; aisle++) {
            Rackrail x = Made.doubting(Made.at((aisle + 1) % 7), aisle);
            Check.same("a look elsewhere than " + aisle, false, x.look());
            Check.same("does not end its doubt", false, x.doubt(aisle));
            Made.go(x, aisle);
            Check.same("a look into " + aisle, true, x.look());
            Check.same("ends its doubt", false, x.look());
            Check.same("it may come again", true, x.doubt(aisle));
            Check.same("and is ended again", true, x.look());
        }
        Check.refused("on the way to it", Check.STATE, () -> Made.doubting(Made.onTheWay(0, 2, 1), 2), Rackrail::look);
        Check.refused("on the way from it", Check.STATE, () -> Made.doubting(Made.onTheWay(0, 2, 0), 0),
                Rackrail::look);
    }

    private static void testTwentyBoxes() {
        Rackrail x = new Rackrail();
        for (int box = 0; box < 20; box++) {
            Check.same("the number", box, x.addBox(box % 3, 1 + box, box % 10));
        }
        Check.same("the first", NONE, x.spotOf(0));
        Check.same("the last", NONE, x.spotOf(19));
        Check.refused("one more", Check.STATE, () -> Made.boxes(20), y -> y.addBox(0, 1, 0));
        Check.refused("one more when all lie", Check.STATE, () -> Made.laid(20), y -> y.addBox(2, 60, 9));
    }

    /** A box of each kin finds the shelf where one of its kin lies, not a lower one with another. */
    private static void testTenKins() {
        for (int kin = 0; kin < 10; kin++) {
            Rackrail x = new Rackrail();
            x.addBox(0, 60, (kin + 1) % 10);
            x.addBox(0, 60, kin);
            x.addBox(0, 40, kin);
            x.lay(0);
            x.lay(1);
            Check.same("kin " + kin, 101, x.bestSpot(2));
        }
        Check.refused("kin below", Check.ARGUMENT, Rackrail::new, x -> x.addBox(0, 1, -1));
        Check.refused("kin above", Check.ARGUMENT, Rackrail::new, x -> x.addBox(0, 1, 10));
    }

    private static void testLiesOrIsOut() {
        Rackrail x = Made.boxes(1);
        Check.same("new", NONE, x.spotOf(0));
        Check.same("laid", 0, x.lay(0));
        Check.same("it lies", 0, x.spotOf(0));
        Check.sameText("it is not out", Check.STATE, State.answer(() -> x.lay(0)));
        x.order(0, 0);
        x.goIn(0);
        x.fetch(0);
        Check.same("fetched", NONE, x.spotOf(0));
        Check.same("it lies nowhere", NONE, x.boxAt(0));
        x.giveBack(0, 0, 2);
        Check.same("given back", 2, x.spotOf(0));
        Check.same("not where it lay before", NONE, x.boxAt(0));
    }

    private static void testBestSpot() {
        Check.same("of several the lowest", 0, Made.boxes(1).bestSpot(0));
        Check.same("not where a box lies", 1, bestAfter(Made.laid(1), 0, 1, 0));
        Check.same("the other side of a full one", 10, bestAfter(Made.laid(3), 0, 1, 0));
        Check.same("not on a full shelf", 100, bestAfter(Made.laid(6), 0, 1, 0));
        Rackrail climates = new Rackrail();
        climates.setClimate(5, 2);
        Check.same("of its climate", 500, bestAfter(climates, 2, 1, 0));
        Check.same("of no shelf's climate", NONE, bestAfter(climates, 1, 1, 0));
        Check.same("a shelf bears 100", 1, bestAfter(heavy(60), 0, 40, 0));
        Check.same("a shelf bears no 101", 100, bestAfter(heavy(60), 0, 41, 0));
        Check.same("one of its kin against none", 102, bestAfter(kins(0, 5, 0), 0, 1, 5));
        Check.same("one of its kin against two others", 1, bestAfter(kins(5, 0, 0), 0, 1, 5));
        Check.same("two of its kin against one", 102, bestAfter(kins(5, 5, 5), 0, 1, 5));
        Check.same("as many of its kin: the lowest", 1, bestAfter(kins(5, 5), 0, 1, 5));
        Check.same("none of its kin: the lowest", 1, bestAfter(kins(5, 5), 0, 1, 6));
        Check.same("its kin elsewhere, too heavy there", 200, bestAfter(kins(5, 5), 0, 60, 5));
        Check.same("one of its kin at the right side", 400, bestAfter(oneOfKin(0, 410), 0, 1, 5));
        Check.same("one of its kin that lies wrong", 401, bestAfter(oneOfKin(1, 400), 0, 1, 5));
    }

    /** One box of the kin 5 in a spot, whatever the climate there is. */
    private static Rackrail oneOfKin(int climate, int spot) {
        Rackrail x = new Rackrail();
        return Made.put(x, x.addBox(climate, 1, 5), spot);
    }

    private static int bestAfter(Rackrail x, int climate, int weight, int kin) {
        return x.bestSpot(x.addBox(climate, weight, kin));
    }

    private static Rackrail heavy(int weight) {
        Rackrail x = new Rackrail();
        x.lay(x.addBox(0, weight, 0));
        return x;
    }

    /** The shelves 0 and 1 with a box of 50 each, of two kins; a third one of 1 lies on the shelf 1. */
    private static Rackrail kins(int first, int second, int third) {
        Rackrail x = kins(first, second);
        x.setClimate(0, 1);
        x.lay(x.addBox(0, 1, third));
        x.setClimate(0, 0);
        return x;
    }

    private static Rackrail kins(int first, int second) {
        Rackrail x = new Rackrail();
        x.lay(x.addBox(0, 50, first));
        x.setClimate(0, 1);
        x.lay(x.addBox(0, 50, second));
        x.setClimate(0, 0);
        return x;
    }

    private static void testWrongSpot() {
        Rackrail x = Made.inside(heavy(60), 0);
        x.setClimate(0, 2);
        int other = x.addBox(1, 60, 0);
        Check.same("another climate, and too heavy", false, x.giveBack(0, other, 1));
        Check.same("it lies there", 1, x.spotOf(other));
        Check.same("the weight", 120, x.weight(0));
        int fitting = x.addBox(2, 60, 0);
        Check.same("its climate, and too heavy", true, x.giveBack(0, fitting, 2));
        Check.same("the weight", 180, x.weight(0));
        Check.same("two of another climate", 2, x.wrong());
    }

    private static void testThirtyOrders() {
        Rackrail x = Made.inside(Made.laid(1), 0);
        for (int order = 0; order < 30; order++) {
            Check.same("the number", order, x.order(0, 0));
            Check.same("the number when done", order, x.fetch(0));
            x.giveBack(0, 0, 0);
        }
        Check.refused("one more", Check.STATE, () -> Made.ordersDone(30), y -> y.order(1, 0));
    }

    private static void testOneOpenOrder() {
        Check.refused("a second", Check.STATE, () -> Made.ordered(Made.laid(2), 0, 5), x -> x.order(0, 6));
        Check.refused("a second for one that is out", Check.STATE, () -> Made.ordered(Made.boxes(2), 0, 5),
                x -> x.order(0, 5));
        Check.same("another box", 1, Made.ordered(Made.laid(2), 0, 5).order(1, 5));
        Rackrail done = Made.inside(Made.ordered(Made.laid(1), 0, 5), 0);
        done.fetch(0);
        Check.same("when the first is done", 1, done.order(0, 5));
    }

    private static void testNextAisle() {
        Check.same("no order", NONE, Made.laid(1).nextAisle());
        Check.same("its box is out", NONE, Made.ordered(Made.boxes(1), 0, 0).nextAisle());
        Rackrail x = new Rackrail();
        int[] spots = {300, 512, 110, 2};
        for (int spot : spots) {
            Made.put(x, x.addBox(0, 1, 0), spot);
        }
        x.addBox(0, 1, 0);
        x.order(4, 0);
        Check.same("the earliest is for a box that is out", NONE, x.nextAisle());
        x.order(1, 20);
        Check.same("the one that lies", 6, x.nextAisle());
        x.order(0, 20);
        Check.same("of several the lowest order", 6, x.nextAisle());
        x.order(2, 19);
        Check.same("an earlier one", 2, x.nextAisle());
        x.order(3, 18);
        Check.same("an earlier one", 0, x.nextAisle());
        Made.inside(Made.go(x, 0), 0).fetch(0);
        Check.same("that one is done", 2, x.nextAisle());
        x.giveBack(0, 4, 1);
        Check.same("the earliest lies by now", 0, x.nextAisle());
    }

    private static void testFetch() {
        Rackrail x = Made.laid(5);
        x.addBox(0, 1, 0);
        int[] boxes = {3, 2, 1, 0, 5};
        int[] deadlines = {1, 9, 8, 8, 0};
        for (int i = 0; i < boxes.length; i++) {
            x.order(boxes[i], deadlines[i]);
        }
        Made.inside(x, 1);
        Check.sameText("not inside", Check.STATE, State.answer(() -> x.fetch(0)));
        Check.same("the earliest, of several the lowest", 2, x.fetch(1));
        Check.same("its box is out", NONE, x.spotOf(1));
        Check.same("the next lies still", 0, x.spotOf(0));
        Check.same("the other one of the same deadline", 3, x.fetch(1));
        Check.same("the latest", 1, x.fetch(1));
        Check.sameText("out of reach, or out", Check.STATE, State.answer(() -> x.fetch(1)));
        Check.same("these are open", 2, x.waiting());
    }

    private static void testLate() {
        for (int deadline : new int[] {0, 1, 100, 9999}) {
            Check.same("at the deadline " + deadline, 0, lateAt(deadline, deadline));
            Check.same("a minute after " + deadline, 1, lateAt(deadline, deadline + 1));
        }
        Check.same("a minute before", 0, lateAt(100, 99));
        Check.same("the end of the clock", 0, lateAt(10000, 10000));
        Check.same("the whole time", 1, lateAt(0, 10000));
    }

    private static int lateAt(int deadline, int clock) {
        Rackrail x = Made.inside(Made.passed(Made.ordered(Made.laid(1), 0, deadline), clock), 0);
        Check.same("open", 0, x.late());
        x.fetch(0);
        return x.late();
    }

    private static void testGiveBack() {
        Check.same("inside, out and reached", true, Made.inside(someOut(), 0).giveBack(0, 1, 1));
        Check.refused("nobody inside", Check.STATE, TermSentences::someOut, x -> x.giveBack(0, 1, 1));
        Check.refused("another inside", Check.STATE, () -> Made.inside(someOut(), 1, 2, 3), x -> x.giveBack(0, 1, 1));
        Check.refused("not out", Check.STATE, () -> Made.inside(someOut(), 0), x -> x.giveBack(0, 0, 1));
        Check.refused("not out, where it lies", Check.STATE, () -> Made.inside(someOut(), 0), x -> x.giveBack(0, 0, 0));
        Check.refused("the shelf's other side", Check.STATE, () -> Made.inside(someOut(), 0),
                x -> x.giveBack(0, 1, 11));
    }

    private static void testNone() {
        Check.same("the constant", -1, Rackrail.NONE);
        Check.same("spotOf", -1, Made.boxes(1).spotOf(0));
        Check.same("boxAt", -1, new Rackrail().boxAt(0));
        Check.same("nextAisle", -1, new Rackrail().nextAisle());
        Check.same("opened", -1, Made.onTheWay(0, 1, 0).opened());
        Check.same("openedByMoves", -1, Made.onTheWay(0, 1, 0).openedByMoves());
        Rackrail x = new Rackrail();
        x.addBox(1, 1, 0);
        Check.same("bestSpot", -1, x.bestSpot(0));
    }
}
