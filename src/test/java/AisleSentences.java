/** The sentences of the promises 10 to 19, on aisles and people, each with a test of its own. */
final class AisleSentences {
    private static final int NONE = Rackrail.NONE;

    private AisleSentences() {
    }

    static void all() {
        ofOpen("Promise 10");
        Check.sentence("Promise 11", "Returns the aisle that is open; NONE while shelves move, or have stopped on the"
                + " way.", AisleSentences::testOpened);
        Check.sentence("Promise 12", "Returns the same, found from all moves of shelves so far.",
                AisleSentences::testOpenedByMoves);
        ofGoIn("Promise 13");
        ofGoOut("Promise 14");
        ofDoubt("Promise 15");
        ofLook("Promise 16");
        ofStall("Promise 17");
        ofSmoke("Promise 18");
        ofPass("Promise 19");
    }

    private static void ofOpen(String promise) {
        Check.sentence(promise, "Begins to open an aisle.", AisleSentences::testOpenBegins);
        Check.sentence(promise, "`aisle`: 0 to 6", AisleSentences::testAislesOfOpen);
        Check.sentence(promise, "Returns how many minutes it takes; 0 if it is open.",
                AisleSentences::testMinutesOfOpen);
        Check.sentence(promise, "Throws `IndexOutOfBoundsException` if there is no such aisle",
                AisleSentences::testOpenNoAisle);
        Check.sentence(promise, "Throws `IllegalStateException` if it may not be opened",
                AisleSentences::testOpenRefused);
    }

    private static void ofGoIn(String promise) {
        Check.sentence(promise, "Lets a person go in.", AisleSentences::testGoIn);
        Check.sentence(promise, "`person`: 0 to 3", AisleSentences::testPeopleOfGoIn);
        Check.sentence(promise, "Returns how many are inside then.", AisleSentences::testCountOfGoIn);
        Check.sentence(promise, "Throws `IndexOutOfBoundsException` if there is no such person",
                AisleSentences::testGoInNobody);
        Check.sentence(promise, "Throws `IllegalStateException` if it is inside, no aisle is open, or there is smoke",
                AisleSentences::testGoInRefused);
    }

    private static void ofGoOut(String promise) {
        Check.sentence(promise, "Lets a person go out.", AisleSentences::testGoOut);
        Check.sentence(promise, "`person`: 0 to 3", AisleSentences::testPeopleOfGoOut);
        Check.sentence(promise, "Returns how many are inside then.", AisleSentences::testCountOfGoOut);
        Check.sentence(promise, "Throws `IndexOutOfBoundsException` if there is no such person",
                AisleSentences::testGoOutNobody);
        Check.sentence(promise, "Throws `IllegalStateException` if it is not inside",
                AisleSentences::testGoOutRefused);
    }

    private static void ofDoubt(String promise) {
        Check.sentence(promise, "Lets the sensor of an aisle doubt.", AisleSentences::testDoubt);
        Check.sentence(promise, "`aisle`: 0 to 6", AisleSentences::testAislesOfDoubt);
        Check.sentence(promise, "Returns true if it did not doubt before.", AisleSentences::testDoubtedBefore);
        Check.sentence(promise, "Throws `IndexOutOfBoundsException` if there is no such aisle",
                AisleSentences::testDoubtNoAisle);
    }

    private static void ofLook(String promise) {
        Check.sentence(promise, "Looks into the aisle that is open.", AisleSentences::testLook);
        Check.sentence(promise, "Returns true if its sensor doubted.", AisleSentences::testLookTellsOfDoubt);
        Check.sentence(promise, "Throws `IllegalStateException` if none is open", AisleSentences::testLookRefused);
    }

    private static void ofStall(String promise) {
        Check.sentence(promise, "Lets the motor stall, or mends it.", AisleSentences::testStall);
        Check.sentence(promise, "`is`: true to let it stall", AisleSentences::testStallByTrue);
        Check.sentence(promise, "Returns true if that changes something.", AisleSentences::testStallChanges);
    }

    private static void ofSmoke(String promise) {
        Check.sentence(promise, "Tells of smoke, by which all go out at once, or that there is none any more.",
                AisleSentences::testSmoke);
        Check.sentence(promise, "`is`: true if there is smoke", AisleSentences::testSmokeByTrue);
        Check.sentence(promise, "Returns how many go out by that.", AisleSentences::testCountOfSmoke);
    }

    private static void ofPass(String promise) {
        Check.sentence(promise, "Lets minutes pass.", AisleSentences::testPass);
        Check.sentence(promise, "`minutes`: 1 to 100", AisleSentences::testMinutesOfPass);
        Check.sentence(promise, "Returns the clock then; it begins with 0.", AisleSentences::testClock);
        Check.sentence(promise, "Throws `IllegalArgumentException` if minutes is out of range",
                AisleSentences::testPassOutOfRange);
        Check.sentence(promise, "Throws `IllegalStateException` if the clock would be above 10000",
                AisleSentences::testPassAboveTheEnd);
    }

    // ---- promise 10

    private static void testOpenBegins() {
        Rackrail x = new Rackrail();
        x.open(1);
        Check.same("it has begun", NONE, x.opened());
        x.pass(1);
        Check.same("it is open", 1, x.opened());
        x.open(1);
        Check.same("it is open already", 1, x.opened());
        Check.onlyAsks("open of the one that is open", () -> Made.at(3), y -> y.open(3));
    }

    private static void testAislesOfOpen() {
        Rackrail x = new Rackrail();
        for (int aisle : new int[] {6, 5, 4, 3, 2, 1, 0}) {
            Made.go(x, aisle);
            Check.same("aisle " + aisle, aisle, x.opened());
        }
    }

    private static void testMinutesOfOpen() {
        for (int from = 0; from < 7; from++) {
            for (int to = 0; to < 7; to++) {
                Check.same(from + " to " + to, Math.abs(from - to), Made.at(from).open(to));
            }
        }
    }

    private static void testOpenNoAisle() {
        for (int aisle : Made.outside(0, 6)) {
            Check.refused("aisle " + aisle, Check.INDEX, Rackrail::new, x -> x.open(aisle));
            Check.refused("aisle " + aisle + " from 6", Check.INDEX, () -> Made.at(6), x -> x.open(aisle));
        }
    }

    private static void testOpenRefused() {
        for (int aisle = 0; aisle < 7; aisle++) {
            int it = aisle;
            Check.refused("inside", Check.STATE, () -> Made.inside(Made.at(2), 3), x -> x.open(it));
            Check.refused("all inside", Check.STATE, () -> Made.inside(Made.at(2), 0, 1, 2, 3), x -> x.open(it));
            Check.refused("doubt", Check.STATE, () -> Made.doubting(Made.at(2), 2), x -> x.open(it));
            Check.refused("moves", Check.STATE, () -> Made.onTheWay(2, 5, 1), x -> x.open(it));
            Check.refused("stall", Check.STATE, () -> Made.stalled(Made.at(2)), x -> x.open(it));
            Check.refused("smoke", Check.STATE, () -> Made.smoky(Made.at(2)), x -> x.open(it));
        }
    }

    // ---- promises 11 and 12

    private static void testOpened() {
        for (int aisle = 0; aisle < 7; aisle++) {
            Check.same("open", aisle, Made.at(aisle).opened());
            Check.same("open, in smoke", aisle, Made.smoky(Made.at(aisle)).opened());
            Check.same("open, stalled", aisle, Made.stalled(Made.at(aisle)).opened());
        }
        Check.same("they are to move", NONE, Made.onTheWay(0, 6, 0).opened());
        Check.same("they move", NONE, Made.onTheWay(0, 6, 5).opened());
        Check.same("stalled before the first", NONE, Made.stalled(Made.onTheWay(0, 6, 0)).opened());
        Check.same("stalled on the way", NONE, Made.passed(Made.stalled(Made.onTheWay(0, 6, 5)), 100).opened());
        Check.same("smoke on the way", NONE, Made.passed(Made.smoky(Made.onTheWay(6, 0, 5)), 100).opened());
        Check.onlyAsks("opened", () -> Made.onTheWay(0, 6, 5), Rackrail::opened);
    }

    /** To and fro, as often as the calls allow; a shelf moves some twenty times by that. */
    private static void testOpenedByMoves() {
        Check.same("no moves", 0, new Rackrail().openedByMoves());
        Rackrail x = new Rackrail();
        int at = 0;
        for (int turn = 0; turn < 30; turn++) {
            int to = turn * 5 % 7;
            x.open(to);
            for (int minute = 0; minute < Math.abs(at - to); minute++) {
                Check.same("on the way from " + at + " to " + to, NONE, x.openedByMoves());
                x.pass(1);
            }
            Check.same("from " + at + " to " + to, to, x.openedByMoves());
            Check.same("opened tells the same", to, x.opened());
            at = to;
        }
        Check.same("stopped", NONE, Made.passed(Made.stalled(Made.onTheWay(6, 0, 5)), 100).openedByMoves());
        Check.same("smoke", NONE, Made.passed(Made.smoky(Made.onTheWay(0, 6, 1)), 100).openedByMoves());
        Check.same("open, in smoke", 6, Made.smoky(Made.at(6)).openedByMoves());
        Check.onlyAsks("openedByMoves", () -> Made.onTheWay(0, 6, 5), Rackrail::openedByMoves);
    }

    // ---- promise 13

    private static void testGoIn() {
        Rackrail x = Made.inside(new Rackrail(), 1);
        Check.sameText("inside", Check.STATE, State.answer(() -> x.goIn(1)));
        Check.sameText("no aisle is opened then", Check.STATE, State.answer(() -> x.open(0)));
        Check.same("it can go out", 0, x.goOut(1));
    }

    private static void testPeopleOfGoIn() {
        for (int person = 0; person < 4; person++) {
            Rackrail x = Made.inside(new Rackrail(), person);
            for (int other = 0; other < 4; other++) {
                int it = other;
                String due = other == person ? "0" : Check.STATE;
                Check.sameText("goOut of " + other + " after goIn of " + person, due,
                        State.answer(() -> x.goOut(it)));
            }
        }
    }

    private static void testCountOfGoIn() {
        Rackrail x = new Rackrail();
        int[] people = {3, 1, 0, 2};
        for (int i = 0; i < people.length; i++) {
            Check.same("person " + people[i], i + 1, x.goIn(people[i]));
        }
        x.goOut(1);
        Check.same("in again", 4, x.goIn(1));
    }

    private static void testGoInNobody() {
        for (int person : Made.outside(0, 3)) {
            Check.refused("person " + person, Check.INDEX, Rackrail::new, x -> x.goIn(person));
        }
    }

    private static void testGoInRefused() {
        for (int person = 0; person < 4; person++) {
            int it = person;
            Check.refused("inside", Check.STATE, () -> Made.inside(new Rackrail(), it), x -> x.goIn(it));
            Check.refused("all inside", Check.STATE, () -> Made.inside(new Rackrail(), 0, 1, 2, 3), x -> x.goIn(it));
            Check.refused("to move", Check.STATE, () -> Made.onTheWay(0, 6, 0), x -> x.goIn(it));
            Check.refused("moves", Check.STATE, () -> Made.onTheWay(0, 6, 5), x -> x.goIn(it));
            Check.refused("stopped", Check.STATE, () -> Made.stalled(Made.onTheWay(0, 6, 5)), x -> x.goIn(it));
            Check.refused("smoke", Check.STATE, () -> Made.smoky(new Rackrail()), x -> x.goIn(it));
        }
        Check.same("neither inside, nor moving, nor smoke", 1, Made.stalled(Made.at(6)).goIn(0));
    }

    // ---- promise 14

    private static void testGoOut() {
        Rackrail x = Made.inside(new Rackrail(), 0, 1);
        x.goOut(0);
        Check.sameText("it is out", Check.STATE, State.answer(() -> x.goOut(0)));
        Check.sameText("the other is inside", Check.STATE, State.answer(() -> x.open(1)));
        x.goOut(1);
        Check.same("nobody is inside", 1, x.open(1));
    }

    private static void testPeopleOfGoOut() {
        Rackrail x = Made.inside(new Rackrail(), 0, 1, 2, 3);
        for (int person = 0; person < 4; person++) {
            Check.same("person " + person, 3 - person, x.goOut(person));
        }
    }

    private static void testCountOfGoOut() {
        Rackrail x = Made.inside(new Rackrail(), 0, 1, 2, 3);
        Check.same("of four", 3, x.goOut(2));
        Check.same("of three", 2, x.goOut(0));
        Check.same("of two", 1, x.goOut(3));
        Check.same("of one", 0, x.goOut(1));
        Check.same("and in again", 1, x.goIn(1));
    }

    private static void testGoOutNobody() {
        for (int person : Made.outside(0, 3)) {
            Check.refused("person " + person, Check.INDEX, () -> Made.inside(new Rackrail(), 0, 1, 2, 3),
                    x -> x.goOut(person));
        }
    }

    private static void testGoOutRefused() {
        Check.refused("nobody is", Check.STATE, Rackrail::new, x -> x.goOut(0));
        Check.refused("the others are", Check.STATE, () -> Made.inside(new Rackrail(), 0, 1, 3), x -> x.goOut(2));
        Check.refused("out by smoke", Check.STATE, () -> Made.smoky(Made.inside(new Rackrail(), 0)), x -> x.goOut(0));
        Check.refused("on the way", Check.STATE, () -> Made.onTheWay(0, 6, 5), x -> x.goOut(3));
    }

    // ---- promise 15

    private static void testDoubt() {
        for (int aisle = 0; aisle < 7; aisle++) {
            Rackrail x = Made.doubting(Made.at(aisle), aisle);
            Check.sameText("it doubts", Check.STATE, State.answer(() -> x.open(0)));
            Check.same("a look tells it", true, x.look());
        }
    }

    private static void testAislesOfDoubt() {
        for (int aisle = 0; aisle < 7; aisle++) {
            Rackrail x = Made.doubting(new Rackrail(), aisle);
            for (int other = 0; other < 7; other++) {
                Check.same("not " + other + " by " + aisle, other != aisle, x.doubt(other));
            }
        }
    }

    private static void testDoubtedBefore() {
        Rackrail x = Made.onTheWay(0, 2, 1);
        for (int aisle = 0; aisle < 7; aisle++) {
            Check.same("before", true, x.doubt(aisle));
            Check.same("again", false, x.doubt(aisle));
        }
        x.pass(1);
        x.look();
        Check.same("after a look", true, x.doubt(2));
        Check.same("without a look", false, x.doubt(1));
    }

    private static void testDoubtNoAisle() {
        for (int aisle : Made.outside(0, 6)) {
            Check.refused("aisle " + aisle, Check.INDEX, Rackrail::new, x -> x.doubt(aisle));
        }
    }

    // ---- promise 16

    private static void testLook() {
        for (int aisle = 0; aisle < 7; aisle++) {
            Rackrail x = Made.doubting(Made.at(aisle), 0, 1, 2, 3, 4, 5, 6);
            x.look();
            for (int other = 0; other < 7; other++) {
                Check.same("a look into " + aisle + ", not " + other, other == aisle, x.doubt(other));
            }
        }
    }

    private static void testLookTellsOfDoubt() {
        Check.same("no doubt", false, new Rackrail().look());
        Check.same("a doubt", true, Made.doubting(new Rackrail(), 0).look());
        Check.same("another's doubt", false, Made.doubting(new Rackrail(), 1).look());
        Check.same("a doubt in smoke", true, Made.doubting(Made.smoky(new Rackrail()), 0).look());
        Check.same("a doubt, one inside", true, Made.doubting(Made.inside(new Rackrail(), 0), 0).look());
        Check.same("a doubt, stalled", true, Made.doubting(Made.stalled(new Rackrail()), 0).look());
    }

    private static void testLookRefused() {
        Check.refused("to move", Check.STATE, () -> Made.doubting(Made.onTheWay(0, 6, 0), 0), Rackrail::look);
        Check.refused("moves", Check.STATE, () -> Made.doubting(Made.onTheWay(0, 6, 5), 6), Rackrail::look);
        Check.refused("stopped", Check.STATE, () -> Made.stalled(Made.onTheWay(6, 0, 5)), Rackrail::look);
        Check.refused("smoke on the way", Check.STATE, () -> Made.smoky(Made.onTheWay(6, 0, 5)), Rackrail::look);
    }

    // ---- promise 17

    private static void testStall() {
        Rackrail x = Made.stalled(Made.onTheWay(0, 2, 1));
        x.pass(100);
        Check.same("it stalls", NONE, x.opened());
        x.stall(false);
        Check.same("mending moves none", NONE, x.opened());
        x.pass(1);
        Check.same("it is mended", 2, x.opened());
    }

    private static void testStallByTrue() {
        Rackrail x = new Rackrail();
        x.stall(false);
        Check.same("false lets it run", 1, x.open(1));
        x.pass(1);
        x.stall(true);
        Check.sameText("true lets it stall", Check.STATE, State.answer(() -> x.open(2)));
    }

    private static void testStallChanges() {
        Rackrail x = new Rackrail();
        Check.same("mended already", false, x.stall(false));
        Check.same("it stalls", true, x.stall(true));
        Check.same("it stalls already", false, x.stall(true));
        Check.same("it is mended", true, x.stall(false));
        Check.same("mended already", false, x.stall(false));
        Check.same("it stalls again", true, x.stall(true));
        Check.onlyAsks("a stall that is", () -> Made.stalled(Made.onTheWay(0, 3, 1)), y -> y.stall(true));
        Check.onlyAsks("no stall that is", () -> Made.onTheWay(0, 3, 1), y -> y.stall(false));
    }

    // ---- promise 18

    private static void testSmoke() {
        Rackrail x = Made.smoky(Made.inside(new Rackrail(), 0, 1, 2, 3));
        for (int person = 0; person < 4; person++) {
            int it = person;
            Check.sameText("it is out", Check.STATE, State.answer(() -> x.goOut(it)));
            Check.sameText("it may not go in", Check.STATE, State.answer(() -> x.goIn(it)));
        }
        x.smoke(false);
        for (int person = 0; person < 4; person++) {
            Check.same("no smoke any more", person + 1, x.goIn(person));
        }
    }

    private static void testSmokeByTrue() {
        Rackrail x = Made.inside(new Rackrail(), 0);
        x.smoke(false);
        Check.same("false sends nobody out", 2, x.goIn(1));
        x.smoke(true);
        Check.sameText("true is smoke", Check.STATE, State.answer(() -> x.goIn(0)));
        Check.onlyAsks("no smoke that is", () -> Made.inside(new Rackrail(), 0), y -> y.smoke(false));
        Check.onlyAsks("smoke that is", () -> Made.smoky(Made.onTheWay(0, 3, 1)), y -> y.smoke(true));
    }

    private static void testCountOfSmoke() {
        int[][] people = {{}, {3}, {0, 2}, {1, 2, 3}, {0, 1, 2, 3}};
        for (int count = 0; count < people.length; count++) {
            Rackrail x = Made.inside(Made.at(5), people[count]);
            Check.same("none by its end", 0, x.smoke(false));
            Check.same("all that are inside", count, x.smoke(true));
            Check.same("none a second time", 0, x.smoke(true));
            Check.same("none by its end", 0, x.smoke(false));
            Check.same("none, they are out", 0, x.smoke(true));
        }
    }

    // ---- promise 19

    private static void testPass() {
        Rackrail x = Made.onTheWay(0, 6, 0);
        x.pass(5);
        Check.same("five minutes", NONE, x.opened());
        x.pass(1);
        Check.same("six", 6, x.opened());
        x.pass(100);
        Check.same("no more than asked", 6, x.opened());
    }

    private static void testMinutesOfPass() {
        for (int minutes = 1; minutes <= 100; minutes++) {
            Check.same("at once", minutes, new Rackrail().pass(minutes));
        }
        Check.refused("below", Check.ARGUMENT, Rackrail::new, x -> x.pass(0));
        Check.refused("above", Check.ARGUMENT, Rackrail::new, x -> x.pass(101));
    }

    private static void testClock() {
        Rackrail x = new Rackrail();
        int clock = 0;
        for (int minutes = 1; minutes <= 100; minutes++) {
            clock += minutes;
            Check.same("the sum", clock, x.pass(minutes));
        }
        Rackrail still = Made.smoky(Made.stalled(new Rackrail()));
        Check.same("in smoke, stalled", 1, still.pass(1));
        Check.same("in smoke, stalled", 101, still.pass(100));
    }

    private static void testPassOutOfRange() {
        for (int minutes : Made.outside(1, 100)) {
            Check.refused("minutes " + minutes, Check.ARGUMENT, () -> Made.onTheWay(0, 6, 1), x -> x.pass(minutes));
        }
    }

    private static void testPassAboveTheEnd() {
        Check.same("the end", 10000, Made.passed(new Rackrail(), 9900).pass(100));
        Check.same("the end by one", 10000, Made.passed(new Rackrail(), 9999).pass(1));
        Check.refused("one above", Check.STATE, () -> movingAt(9901), x -> x.pass(100));
        Check.refused("by the least", Check.STATE, () -> movingAt(10000), x -> x.pass(1));
        Check.refused("by the most", Check.STATE, () -> movingAt(10000), x -> x.pass(100));
        Check.refused("two of one that is left", Check.STATE, () -> movingAt(9999), x -> x.pass(2));
    }

    /** Shelves are to move from the aisle 0 to 6, at a time near the end of the clock. */
    private static Rackrail movingAt(int clock) {
        Rackrail x = Made.passed(new Rackrail(), clock);
        x.open(6);
        return x;
    }
}
