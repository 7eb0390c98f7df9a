/** The sentences of the promises 20 to 25, on orders, each with a test of its own. */
final class OrderSentences {
    private static final int NONE = Rackrail.NONE;

    private OrderSentences() {
    }

    static void all() {
        ofOrder("Promise 20");
        Check.sentence("Promise 21", "Returns the next aisle.", OrderSentences::testNextAisle);
        ofFetch("Promise 22");
        ofGiveBack("Promise 23");
        Check.sentence("Promise 24", "Returns how many orders are open.", OrderSentences::testWaiting);
        Check.sentence("Promise 25", "Returns how many orders were done late.", OrderSentences::testLate);
    }

    private static void ofOrder(String promise) {
        Check.sentence(promise, "Enters an order.", OrderSentences::testOrder);
        Check.sentence(promise, "`box`: the number of a box", OrderSentences::testOrderForEachBox);
        Check.sentence(promise, "`deadline`: 0 to 10000", OrderSentences::testDeadlines);
        Check.sentence(promise, "Returns its number.", OrderSentences::testNumbersOfOrders);
        Check.sentence(promise, "Throws `IndexOutOfBoundsException` if there is no such box",
                OrderSentences::testOrderForNoBox);
        Check.sentence(promise, "Throws `IllegalArgumentException` if deadline is out of range",
                OrderSentences::testOrderOutOfRange);
        Check.sentence(promise, "Throws `IllegalStateException` if the box has an open order, or there are 30 orders",
                OrderSentences::testOrderRefused);
    }

    private static void ofFetch(String promise) {
        Check.sentence(promise, "Lets a person fetch.", OrderSentences::testFetch);
        Check.sentence(promise, "`person`: 0 to 3", OrderSentences::testPeopleOfFetch);
        Check.sentence(promise, "Returns the order that is done.", OrderSentences::testOrderDone);
        Check.sentence(promise, "Throws `IndexOutOfBoundsException` if there is no such person",
                OrderSentences::testFetchByNobody);
        Check.sentence(promise, "Throws `IllegalStateException` if it is not inside, or there is no such order",
                OrderSentences::testFetchRefused);
    }

    private static void ofGiveBack(String promise) {
        Check.sentence(promise, "Lets a person give a box back.", OrderSentences::testGiveBack);
        Check.sentence(promise, "`person`: 0 to 3", OrderSentences::testPeopleOfGiveBack);
        Check.sentence(promise, "`box`: the number of a box", OrderSentences::testGiveBackEachBox);
        Check.sentence(promise, "`spot`: a spot", OrderSentences::testGiveBackToEachSpot);
        Check.sentence(promise, "Returns true if the climate is that of the box.",
                OrderSentences::testClimateOfGiveBack);
        Check.sentence(promise, "Throws `IndexOutOfBoundsException` if there is no such person, box or spot",
                OrderSentences::testGiveBackOutOfRange);
        Check.sentence(promise, "Throws `IllegalStateException` if the person is not inside, the box is not out, the"
                + " spot is not reached from the open aisle, or a box lies there", OrderSentences::testGiveBackRefused);
    }

    // ---- promise 20

    private static void testOrder() {
        Rackrail x = Made.ordered(Made.laid(1), 0, 5);
        Check.same("it is open", 1, x.waiting());
        Check.same("its box is next", 0, x.nextAisle());
        Check.same("the box lies still", 0, x.spotOf(0));
        Check.same("it may be fetched", 0, Made.inside(x, 0).fetch(0));
        Check.same("for a box that is out", 0, Made.boxes(1).order(0, 0));
        Check.same("in smoke", 0, Made.smoky(Made.laid(1)).order(0, 0));
        Check.same("at the end of the clock", 0, Made.passed(Made.laid(1), 10000).order(0, 0));
    }

    private static void testOrderForEachBox() {
        for (int box = 0; box < 20; box++) {
            Rackrail x = Made.ordered(Made.laid(20), box, 0);
            Check.same("for " + box, Made.aisleOf(Made.spots()[box]), x.nextAisle());
            Made.inside(Made.go(x, x.nextAisle()), 0).fetch(0);
            Check.same("it is that box", NONE, x.spotOf(box));
        }
    }

    private static void testDeadlines() {
        for (int deadline : new int[] {0, 1, 255, 256, 9999, 10000}) {
            Check.same("deadline " + deadline, 0, Made.laid(1).order(0, deadline));
        }
        Rackrail x = Made.laid(6);
        x.order(0, 10000);
        x.order(3, 9999);
        Check.same("the latest is after all", 1, x.nextAisle());
        x.order(1, 0);
        Check.same("the earliest is before all", 0, x.nextAisle());
        Check.refused("below", Check.ARGUMENT, () -> Made.laid(1), y -> y.order(0, -1));
        Check.refused("above", Check.ARGUMENT, () -> Made.laid(1), y -> y.order(0, 10001));
    }

    private static void testNumbersOfOrders() {
        Rackrail x = Made.laid(20);
        for (int box = 19; box >= 0; box--) {
            Check.sameText("one that is refused", Check.ARGUMENT, State.answer(() -> x.order(0, -1)));
            Check.same("the next", 19 - box, x.order(box, box));
        }
        Made.inside(x, 0).fetch(0);
        Check.same("done ones keep theirs", 20, x.order(0, 0));
        Check.same("the thirtieth", 29, Made.ordersDone(29).order(0, 0));
    }

    private static void testOrderForNoBox() {
        for (int box : Made.outside(0, 2)) {
            Check.refused("box " + box, Check.INDEX, () -> Made.laid(3), x -> x.order(box, 0));
        }
        Check.refused("of no boxes", Check.INDEX, Rackrail::new, x -> x.order(0, 0));
        Check.refused("of twenty", Check.INDEX, () -> Made.laid(20), x -> x.order(20, 0));
    }

    private static void testOrderOutOfRange() {
        for (int deadline : Made.outside(0, 10000)) {
            Check.refused("deadline " + deadline, Check.ARGUMENT, () -> Made.laid(1), x -> x.order(0, deadline));
        }
    }

    private static void testOrderRefused() {
        Check.refused("open", Check.STATE, () -> Made.ordered(Made.laid(2), 1, 5), x -> x.order(1, 5));
        Check.refused("open, earlier", Check.STATE, () -> Made.ordered(Made.laid(2), 1, 5), x -> x.order(1, 0));
        Check.refused("open, out", Check.STATE, () -> Made.ordered(Made.boxes(1), 0, 5), x -> x.order(0, 6));
        Check.refused("open after one that is done", Check.STATE, () -> Made.ordered(Made.ordersDone(1), 0, 5),
                x -> x.order(0, 5));
        Check.refused("thirty, all done", Check.STATE, () -> Made.ordersDone(30), x -> x.order(0, 5));
        Check.refused("thirty, one open", Check.STATE, () -> Made.ordered(Made.ordersDone(29), 0, 5),
                x -> x.order(1, 5));
        Check.same("twenty-nine", 29, Made.ordersDone(29).order(1, 5));
    }

    // ---- promise 21

    private static void testNextAisle() {
        Check.same("no order", NONE, new Rackrail().nextAisle());
        for (int spot : Made.spots()) {
            Rackrail x = Made.put(Made.boxes(1), 0, spot);
            Check.same("no order yet", NONE, x.nextAisle());
            x.order(0, 10000);
            Check.same("of " + spot, Made.aisleOf(spot), x.nextAisle());
            Made.inside(Made.go(x, x.nextAisle()), 0).fetch(0);
            Check.same("it is done", NONE, x.nextAisle());
        }
        Check.onlyAsks("nextAisle", () -> Made.ordered(Made.laid(1), 0, 0), Rackrail::nextAisle);
        Check.same("on the way", 0, Made.ordered(laidOnTheWay(), 0, 0).nextAisle());
        Check.same("in smoke", 0, Made.smoky(Made.ordered(Made.laid(1), 0, 0)).nextAisle());
    }

    private static Rackrail laidOnTheWay() {
        Rackrail x = Made.laid(1);
        x.open(5);
        return x;
    }

    // ---- promise 22

    private static void testFetch() {
        Rackrail x = Made.inside(Made.ordered(Made.laid(2), 1, 0), 0);
        x.fetch(0);
        Check.same("the order is done", 0, x.waiting());
        Check.same("its box is out", NONE, x.spotOf(1));
        Check.same("its spot is free", NONE, x.boxAt(1));
        Check.same("it weighs nothing there", 1, x.weight(0));
        Check.same("the other lies", 0, x.spotOf(0));
        Check.sameText("the person is inside still", Check.STATE, State.answer(() -> x.goIn(0)));
    }

    private static void testPeopleOfFetch() {
        for (int person = 0; person < 4; person++) {
            Rackrail x = Made.inside(Made.ordered(Made.laid(1), 0, 0), person);
            for (int other = 0; other < 4; other++) {
                int it = other;
                if (other != person) {
                    Check.sameText(other + " is not inside", Check.STATE, State.answer(() -> x.fetch(it)));
                }
            }
            Check.same(person + " is inside", 0, x.fetch(person));
        }
    }

    private static void testOrderDone() {
        Rackrail x = Made.laid(3);
        x.order(2, 30);
        x.order(0, 10);
        x.order(1, 20);
        Made.inside(x, 0, 3);
        Check.same("the earliest", 1, x.fetch(0));
        Check.same("the next, by another", 2, x.fetch(3));
        Check.same("the latest", 0, x.fetch(0));
        Check.same("the thirtieth", 29, Made.ordered(Made.ordersDone(29), 1, 10000).fetch(0));
    }

    private static void testFetchByNobody() {
        for (int person : Made.outside(0, 3)) {
            Check.refused("person " + person, Check.INDEX,
                    () -> Made.inside(Made.ordered(Made.laid(1), 0, 0), 0, 1, 2, 3), x -> x.fetch(person));
        }
    }

    private static void testFetchRefused() {
        Check.refused("nobody inside", Check.STATE, () -> Made.ordered(Made.laid(1), 0, 0), x -> x.fetch(0));
        Check.refused("others inside", Check.STATE, () -> Made.inside(Made.ordered(Made.laid(1), 0, 0), 0, 1, 2),
                x -> x.fetch(3));
        Check.refused("out by smoke", Check.STATE,
                () -> Made.smoky(Made.inside(Made.ordered(Made.laid(1), 0, 0), 0)), x -> x.fetch(0));
        Check.refused("no order", Check.STATE, () -> Made.inside(Made.laid(1), 0), x -> x.fetch(0));
        Check.refused("all are done", Check.STATE, () -> Made.ordersDone(3), x -> x.fetch(0));
        Check.refused("its box is out", Check.STATE, () -> Made.inside(Made.ordered(Made.boxes(1), 0, 0), 0),
                x -> x.fetch(0));
        Check.refused("the shelf's other side", Check.STATE, () -> Made.inside(Made.ordered(Made.laid(4), 3, 0), 0),
                x -> x.fetch(0));
        Check.refused("the shelf beside", Check.STATE, () -> Made.inside(Made.ordered(Made.laid(7), 6, 0), 0),
                x -> x.fetch(0));
    }

    // ---- promise 23

    /** Box 0 lies in the spot 0, box 1 is out; the aisle 0 is open. */
    private static Rackrail oneOut() {
        Rackrail x = Made.laid(1);
        x.addBox(0, 1, 0);
        return x;
    }

    private static Rackrail oneOutOnTheWay() {
        Rackrail x = oneOut();
        x.open(1);
        return x;
    }

    private static void testGiveBack() {
        Rackrail x = Made.inside(oneOut(), 2);
        x.giveBack(2, 1, 2);
        Check.same("it lies", 2, x.spotOf(1));
        Check.same("it lies there", 1, x.boxAt(2));
        Check.same("it weighs there", 2, x.weight(0));
        Check.same("the other lies", 0, x.spotOf(0));
        Check.sameText("the person is inside still", Check.STATE, State.answer(() -> x.goIn(2)));
        Check.same("an open order of it", 1, orderedAndGivenBack().waiting());
        Check.same("it may be fetched", 0, orderedAndGivenBack().fetch(0));
    }

    private static Rackrail orderedAndGivenBack() {
        Rackrail x = Made.inside(Made.ordered(Made.boxes(1), 0, 0), 0);
        x.giveBack(0, 0, 0);
        return x;
    }

    private static void testPeopleOfGiveBack() {
        for (int person = 0; person < 4; person++) {
            Rackrail x = Made.inside(oneOut(), person);
            for (int other = 0; other < 4; other++) {
                int it = other;
                if (other != person) {
                    Check.sameText(other + " is not inside", Check.STATE, State.answer(() -> x.giveBack(it, 1, 1)));
                }
            }
            Check.same(person + " is inside", true, x.giveBack(person, 1, 1));
        }
    }

    private static void testGiveBackEachBox() {
        for (int box = 0; box < 20; box++) {
            Rackrail x = Made.inside(Made.boxes(20), 0);
            x.giveBack(0, box, 1);
            Check.same("it lies there", box, x.boxAt(1));
        }
    }

    private static void testGiveBackToEachSpot() {
        for (int spot : Made.spots()) {
            Rackrail x = Made.inside(Made.go(Made.boxes(1), Made.aisleOf(spot)), 0);
            Check.same("to " + spot, true, x.giveBack(0, 0, spot));
            Check.same("it lies there", spot, x.spotOf(0));
        }
    }

    private static void testClimateOfGiveBack() {
        for (int climate = 0; climate < 3; climate++) {
            for (int other = 0; other < 3; other++) {
                Rackrail x = new Rackrail();
                x.setClimate(2, climate);
                x.addBox(other, 60, 0);
                Made.inside(Made.go(x, 3), 0);
                Check.same(other + " to " + climate, other == climate, x.giveBack(0, 0, 211));
                Check.same("wrong is", other == climate ? 0 : 1, x.wrong());
            }
        }
    }

    private static void testGiveBackOutOfRange() {
        for (int person : Made.outside(0, 3)) {
            Check.refused("person " + person, Check.INDEX, () -> Made.inside(oneOut(), 0, 1, 2, 3),
                    x -> x.giveBack(person, 1, 1));
        }
        for (int box : Made.outside(0, 1)) {
            Check.refused("box " + box, Check.INDEX, () -> Made.inside(oneOut(), 0), x -> x.giveBack(0, box, 1));
        }
        for (int spot : Made.noSpots()) {
            Check.refused("spot " + spot, Check.INDEX, () -> Made.inside(oneOut(), 0), x -> x.giveBack(0, 1, spot));
        }
        Check.refused("of twenty", Check.INDEX, () -> Made.inside(Made.boxes(20), 0), x -> x.giveBack(0, 20, 1));
        Check.refused("of no boxes", Check.INDEX, () -> Made.inside(new Rackrail(), 0), x -> x.giveBack(0, 0, 1));
    }

    private static void testGiveBackRefused() {
        Check.refused("nobody inside", Check.STATE, OrderSentences::oneOut, x -> x.giveBack(0, 1, 1));
        Check.refused("others inside", Check.STATE, () -> Made.inside(oneOut(), 1, 2, 3), x -> x.giveBack(0, 1, 1));
        Check.refused("out by smoke", Check.STATE, () -> Made.smoky(Made.inside(oneOut(), 0)),
                x -> x.giveBack(0, 1, 1));
        Check.refused("not out", Check.STATE, () -> Made.inside(oneOut(), 0), x -> x.giveBack(0, 0, 1));
        Check.refused("not reached, the right side", Check.STATE, () -> Made.inside(oneOut(), 0),
                x -> x.giveBack(0, 1, 10));
        Check.refused("not reached, the shelf 1", Check.STATE, () -> Made.inside(oneOut(), 0),
                x -> x.giveBack(0, 1, 100));
        Check.refused("not reached, the left side", Check.STATE, () -> Made.inside(Made.go(oneOut(), 1), 0),
                x -> x.giveBack(0, 1, 1));
        Check.refused("nobody inside, on the way", Check.STATE, OrderSentences::oneOutOnTheWay,
                x -> x.giveBack(0, 1, 1));
        Check.refused("taken", Check.STATE, () -> Made.inside(oneOut(), 0), x -> x.giveBack(0, 1, 0));
    }

    // ---- promises 24 and 25

    private static void testWaiting() {
        Check.same("none", 0, new Rackrail().waiting());
        Rackrail x = Made.laid(20);
        for (int box = 0; box < 20; box++) {
            x.order(box, box);
            Check.same("open", box + 1, x.waiting());
        }
        Made.inside(x, 0);
        for (int done = 1; done <= 3; done++) {
            x.fetch(0);
            Check.same("after " + done, 20 - done, x.waiting());
        }
        x.order(0, 0);
        Check.same("one whose box is out", 18, x.waiting());
        Check.same("thirty that are done", 0, Made.ordersDone(30).waiting());
        Check.same("one after 29", 1, Made.ordered(Made.ordersDone(29), 0, 0).waiting());
        Check.onlyAsks("waiting", () -> Made.ordered(Made.laid(1), 0, 0), Rackrail::waiting);
    }

    private static void testLate() {
        Check.same("none", 0, new Rackrail().late());
        Rackrail x = Made.laid(3);
        x.order(0, 6);
        x.order(1, 7);
        x.order(2, 8);
        Made.inside(Made.passed(x, 7), 0);
        Check.same("open ones are not", 0, x.late());
        x.fetch(0);
        Check.same("after its deadline", 1, x.late());
        x.fetch(0);
        Check.same("at its deadline", 1, x.late());
        x.fetch(0);
        Check.same("before its deadline", 1, x.late());
        x.pass(100);
        Check.same("those that are done stay", 1, x.late());
        Check.same("thirty", 30, thirtyLate());
        Check.onlyAsks("late", () -> Made.passed(Made.ordered(Made.laid(1), 0, 0), 5), Rackrail::late);
    }

    private static int thirtyLate() {
        Rackrail x = Made.passed(Made.inside(Made.laid(1), 0), 1);
        for (int order = 0; order < 30; order++) {
            x.order(0, 0);
            x.fetch(0);
            x.giveBack(0, 0, 0);
        }
        return x.late();
    }
}
