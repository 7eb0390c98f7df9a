/** Promises 10 to 19: aisles, people, sensors, the motor, smoke and the clock. */
public final class AislesTest {
    private static final int NONE = Rackrail.NONE;

    private static Rackrail openAt(int aisle) {
        Rackrail x = new Rackrail();
        if (aisle > 0) {
            x.open(aisle);
            x.pass(aisle);
        }
        return x;
    }

    private static void isOpen(Rackrail x, int aisle, String when) {
        Check.same("11: opened, " + when, aisle, x.opened());
        Check.same("12: openedByMoves, " + when, aisle, x.openedByMoves());
    }

    private static void testEveryWay() {
        for (int from = 0; from < 7; from++) {
            for (int to = 0; to < 7; to++) {
                Rackrail x = openAt(from);
                String way = from + " to " + to;
                int minutes = Math.abs(from - to);
                isOpen(x, from, way + " before");
                Check.same("10: open, " + way, minutes, x.open(to));
                for (int minute = 0; minute < minutes; minute++) {
                    isOpen(x, NONE, way + " on the way");
                    x.pass(1);
                }
                isOpen(x, to, way + " after");
                x.pass(3);
                isOpen(x, to, way + " later");
            }
        }
    }

    private static void testThereAndBack() {
        Rackrail x = new Rackrail();
        int[] aisles = {6, 2, 4, 3, 0, 5, 1};
        int at = 0;
        for (int aisle : aisles) {
            Check.same("10: open " + aisle, Math.abs(aisle - at), x.open(aisle));
            x.pass(100);
            isOpen(x, aisle, "there and back");
            at = aisle;
        }
    }

    private static void testOpenThrows() {
        Rackrail x = new Rackrail();
        Check.noIndex("10: aisle 7", () -> x.open(7));
        Check.noIndex("10: aisle -1", () -> x.open(-1));
        x.goIn(0);
        Check.noState("10: somebody inside", () -> x.open(1));
        Check.noState("10: also the open one", () -> x.open(0));
        Check.noIndex("10: the aisle is named first", () -> x.open(7));
        x.goOut(0);
        x.doubt(0);
        Check.noState("10: a doubt", () -> x.open(1));
        Check.noState("10: also the open one in doubt", () -> x.open(0));
        x.look();
        x.stall(true);
        Check.noState("10: the motor stalls", () -> x.open(1));
        Check.noState("10: also the open one, stalled", () -> x.open(0));
        x.stall(false);
        x.smoke(true);
        Check.noState("10: smoke", () -> x.open(1));
        Check.noState("10: also the open one in smoke", () -> x.open(0));
        x.smoke(false);
        isOpen(x, 0, "after all that was refused");
        Check.same("10: now it may", 0, x.open(0));
        Check.same("10: now it may", 2, x.open(2));
        Check.noState("10: it moves", () -> x.open(2));
        Check.noState("10: it moves", () -> x.open(0));
        x.pass(1);
        Check.noState("10: it is on the way", () -> x.open(1));
        Check.noIndex("10: it moves, and there is no such aisle", () -> x.open(-1));
        x.pass(1);
        isOpen(x, 2, "the first that was asked");
    }

    private static void testDoubtElsewhereDoesNotHinder() {
        Rackrail x = new Rackrail();
        for (int aisle = 1; aisle < 7; aisle++) {
            x.doubt(aisle);
        }
        Check.same("10: the others doubt", 2, x.open(2));
        x.pass(2);
        Check.noState("10: now its own doubts", () -> x.open(3));
        Check.same("16: the look", true, x.look());
        Check.same("10: no more", 1, x.open(3));
    }

    private static void testGoIn() {
        Rackrail x = new Rackrail();
        Check.noIndex("13: person 4", () -> x.goIn(4));
        Check.noIndex("13: person -1", () -> x.goIn(-1));
        Check.same("13: the first", 1, x.goIn(3));
        Check.noState("13: inside already", () -> x.goIn(3));
        Check.same("13: the second", 2, x.goIn(0));
        Check.same("13: the third", 3, x.goIn(1));
        Check.same("13: the fourth", 4, x.goIn(2));
        Check.noIndex("13: person 4 of four inside", () -> x.goIn(4));
        x.smoke(true);
        Check.noState("13: smoke", () -> x.goIn(0));
        x.smoke(false);
        Check.same("13: after the smoke", 1, x.goIn(0));
        x.goOut(0);
        x.open(1);
        Check.noState("13: shelves move", () -> x.goIn(0));
        x.pass(1);
        x.stall(true);
        x.doubt(1);
        Check.same("13: neither stall nor doubt hinders", 1, x.goIn(0));
    }

    private static void testGoOut() {
        Rackrail x = new Rackrail();
        Check.noIndex("14: person 4", () -> x.goOut(4));
        Check.noIndex("14: person -1", () -> x.goOut(-1));
        Check.noState("14: not inside", () -> x.goOut(0));
        x.goIn(0);
        x.goIn(2);
        Check.noState("14: another is", () -> x.goOut(1));
        Check.same("14: the first", 1, x.goOut(0));
        Check.noState("14: out already", () -> x.goOut(0));
        Check.same("14: the last", 0, x.goOut(2));
        Check.same("13: in again", 1, x.goIn(0));
    }

    private static void testDoubt() {
        Rackrail x = new Rackrail();
        for (int aisle = 0; aisle < 7; aisle++) {
            Check.same("15: new, " + aisle, true, x.doubt(aisle));
            Check.same("15: again, " + aisle, false, x.doubt(aisle));
        }
        Check.noIndex("15: aisle 7", () -> bit(x.doubt(7)));
        Check.noIndex("15: aisle -1", () -> bit(x.doubt(-1)));
        Rackrail y = new Rackrail();
        y.open(1);
        Check.same("15: while shelves move", true, y.doubt(0));
        y.smoke(true);
        Check.same("15: in smoke", true, y.doubt(1));
    }

    private static void testLook() {
        Rackrail x = new Rackrail();
        Check.same("16: no doubt", false, x.look());
        x.doubt(0);
        x.doubt(1);
        Check.same("16: a doubt", true, x.look());
        Check.same("16: it is ended", false, x.look());
        Check.same("16: only there", false, x.doubt(1));
        Check.same("15: it may doubt again", true, x.doubt(0));
        x.goIn(0);
        x.stall(true);
        Check.same("16: with one inside", true, x.look());
        x.smoke(true);
        Check.same("16: in smoke", false, x.look());
        x.smoke(false);
        x.stall(false);
        x.open(2);
        x.pass(1);
        Check.noState("16: none is open", () -> bit(x.look()));
        Check.same("16: nothing changed", false, x.doubt(1));
    }

    private static long bit(boolean is) {
        return is ? 1 : 0;
    }

    private static void testStall() {
        Rackrail x = new Rackrail();
        Check.same("17: mended already", false, x.stall(false));
        Check.same("17: it stalls", true, x.stall(true));
        Check.same("17: it stalls already", false, x.stall(true));
        Check.same("17: it is mended", true, x.stall(false));
        x.open(3);
        x.pass(1);
        x.stall(true);
        isOpen(x, NONE, "stalled");
        Check.noState("16: stopped on the way", () -> bit(x.look()));
        Check.noState("13: stopped on the way", () -> x.goIn(0));
        Check.same("19: the clock goes on", 51, x.pass(50));
        isOpen(x, NONE, "stalled for long");
        x.stall(false);
        Check.noState("10: stopped on the way", () -> x.open(1));
        x.pass(1);
        isOpen(x, NONE, "one more to come");
        x.pass(1);
        isOpen(x, 3, "it went on");
    }

    private static void testStallBeforeTheFirstMove() {
        Rackrail x = new Rackrail();
        x.open(1);
        x.stall(true);
        x.pass(9);
        isOpen(x, NONE, "stalled before the first move");
        x.smoke(true);
        x.stall(false);
        x.pass(9);
        isOpen(x, NONE, "mended, but smoke");
        x.smoke(false);
        x.stall(true);
        x.pass(9);
        isOpen(x, NONE, "no smoke, but stalled");
        x.stall(false);
        x.pass(1);
        isOpen(x, 1, "both are over");
    }

    private static void testSmoke() {
        Rackrail x = new Rackrail();
        Check.same("18: nobody inside", 0, x.smoke(true));
        Check.same("18: over", 0, x.smoke(false));
        x.goIn(0);
        x.goIn(1);
        x.goIn(3);
        Check.same("18: none there, none is told", 0, x.smoke(false));
        Check.noState("18: they stay", () -> x.goIn(1));
        Check.same("18: all go out", 3, x.smoke(true));
        Check.same("18: they are out", 0, x.smoke(true));
        Check.noState("14: they are out", () -> x.goOut(1));
        isOpen(x, 0, "smoke");
        Check.same("18: nobody goes out", 0, x.smoke(false));
        Check.noState("18: they do not come back", () -> x.goOut(0));
        Check.same("13: one goes in again", 1, x.goIn(1));
    }

    private static void testSmokeOnTheWay() {
        Rackrail x = openAt(6);
        x.open(4);
        x.pass(1);
        x.smoke(true);
        x.pass(20);
        isOpen(x, NONE, "smoke on the way");
        x.smoke(false);
        isOpen(x, NONE, "smoke is over");
        x.pass(1);
        isOpen(x, 4, "it went on");
    }

    private static void testPass() {
        Rackrail x = new Rackrail();
        Check.noArgument("19: 0 minutes", () -> x.pass(0));
        Check.noArgument("19: -1 minutes", () -> x.pass(-1));
        Check.noArgument("19: 101 minutes", () -> x.pass(101));
        Check.noArgument("19: the most minutes", () -> x.pass(Integer.MAX_VALUE));
        Check.same("19: the first", 1, x.pass(1));
        Check.same("19: the most at once", 101, x.pass(100));
    }

    private static void testPassToTheEnd() {
        Rackrail x = new Rackrail();
        for (int hundred = 1; hundred < 100; hundred++) {
            Check.same("19: the clock", 100 * hundred, x.pass(100));
        }
        Check.same("19: near the end", 9999, x.pass(99));
        x.open(2);
        Check.noState("19: above the end", () -> x.pass(2));
        Check.noArgument("19: minutes are named first", () -> x.pass(101));
        isOpen(x, NONE, "nothing moved in a call that threw");
        Check.same("19: the end", 10000, x.pass(1));
        isOpen(x, NONE, "one of two moved");
        Check.noState("19: after the end", () -> x.pass(1));
        isOpen(x, NONE, "at the end");
    }

    public static void main(String[] args) {
        testEveryWay();
        testThereAndBack();
        testOpenThrows();
        testDoubtElsewhereDoesNotHinder();
        testGoIn();
        testGoOut();
        testDoubt();
        testLook();
        testStall();
        testStallBeforeTheFirstMove();
        testSmoke();
        testSmokeOnTheWay();
        testPass();
        testPassToTheEnd();
        Check.end("AislesTest");
    }
}
