import java.util.Random;

/**
 * Runs of calls drawn from fixed seeds, each answer held against the Model's. At the end of a run all
 * that can be asked is asked, so that a call that threw and yet changed something is found.
 */
public final class RandomRunsTest {
    private static final int RUNS = 3000;
    /** With the 78 calls at the end of a run these are the 512 that the document promises. */
    private static final int LONGEST_RUN = 434;
    private static final int[] ODD = {
        -1, -2, Integer.MIN_VALUE, Integer.MAX_VALUE, 3, 4, 6, 7, 10, 20, 21, 30, 61, 101, 600, 10001
    };

    /** How often each call is drawn: those that change something more often. */
    private static final int[] WEIGHTS = {
        2, 6, 2, 8, 1, 1, 1, 1, 14, 2, 2, 8, 8, 1, 3, 1, 1, 10, 8, 2, 10, 10, 1, 1
    };

    private final Random random;
    private final Rackrail rackrail = new Rackrail();
    private final Model model = new Model();
    private final StringBuilder told = new StringBuilder();
    private final boolean heavy;

    private RandomRunsTest(long seed) {
        random = new Random(seed);
        heavy = seed % 3 == 0;
    }

    private static long bit(boolean is) {
        return is ? 1 : 0;
    }

    private static long call(Rackrail x, int call, int a, int b, int c) {
        return switch (call) {
            case 0 -> x.setClimate(a, b);
            case 1 -> x.addBox(a, b, c);
            case 2 -> x.bestSpot(a);
            case 3 -> x.lay(a);
            case 4 -> x.spotOf(a);
            case 5 -> x.boxAt(a);
            case 6 -> x.weight(a);
            case 7 -> x.wrong();
            case 8 -> x.open(a);
            case 9 -> x.opened();
            case 10 -> x.openedByMoves();
            case 11 -> x.goIn(a);
            case 12 -> x.goOut(a);
            case 13 -> bit(x.doubt(a));
            case 14 -> bit(x.look());
            case 15 -> bit(x.stall(a > 0));
            case 16 -> x.smoke(a > 0);
            case 17 -> x.pass(a);
            case 18 -> x.order(a, b);
            case 19 -> x.nextAisle();
            case 20 -> x.fetch(a);
            case 21 -> bit(x.giveBack(a, b, c));
            case 22 -> x.waiting();
            default -> x.late();
        };
    }

    private int drawCall() {
        int sum = 0;
        for (int weight : WEIGHTS) {
            sum += weight;
        }
        int left = random.nextInt(sum);
        int call = 0;
        while (left >= WEIGHTS[call]) {
            left -= WEIGHTS[call];
            call++;
        }
        return call;
    }

    private int below(int end) {
        return random.nextInt(40) == 0 ? ODD[random.nextInt(ODD.length)] : random.nextInt(end);
    }

    private int drawBox() {
        return below(model.boxCount() + 1);
    }

    private int drawSpot() {
        return 100 * below(6) + 10 * below(2) + below(3);
    }

    private int drawMinutes() {
        int most = heavy ? 100 : 4;
        return random.nextInt(30) == 0 ? below(102) : 1 + below(most);
    }

    private int drawA(int call) {
        return switch (call) {
            case 0, 6 -> below(6);
            case 1 -> below(3);
            case 2, 3, 4, 18 -> drawBox();
            case 5 -> drawSpot();
            case 8, 13 -> below(7);
            case 15, 16 -> random.nextInt(4) == 0 ? 1 : 0;
            case 17 -> drawMinutes();
            default -> below(4);
        };
    }

    private int drawB(int call) {
        return switch (call) {
            case 0 -> below(3);
            case 1 -> heavy ? below(62) : 1 + below(20);
            case 18 -> random.nextInt(3) == 0 ? below(10002) : below(200);
            default -> drawBox();
        };
    }

    private int drawC(int call) {
        return call == 1 ? below(random.nextBoolean() ? 3 : 10) : drawSpot();
    }

    private void ask(long seed, int call, int a, int b, int c) {
        String due = model.answer(call, a, b, c);
        String got = Check.answerOf(() -> call(rackrail, call, a, b, c));
        told.append(call).append('(').append(a).append(", ").append(b).append(", ").append(c).append(") ");
        boolean same = due.equals(got);
        Check.sameText(same ? "" : "seed " + seed + ", the last of " + told, due, got);
    }

    private void run(long seed) {
        int calls = 1 + random.nextInt(LONGEST_RUN);
        for (int i = 0; i < calls; i++) {
            int call = drawCall();
            ask(seed, call, drawA(call), drawB(call), drawC(call));
        }
        askAll(seed);
    }

    private void askAll(long seed) {
        for (int spot = 0; spot < 600; spot += 100) {
            for (int place = 0; place < 6; place++) {
                ask(seed, 5, spot + 10 * (place / 3) + place % 3, 0, 0);
            }
            ask(seed, 6, spot / 100, 0, 0);
        }
        for (int box = 0; box < model.boxCount(); box++) {
            ask(seed, 4, box, 0, 0);
        }
        for (int call : new int[] {7, 9, 10, 19, 22, 23}) {
            ask(seed, call, 0, 0, 0);
        }
        for (int shelf = 0; shelf < 6; shelf++) {
            ask(seed, 0, shelf, 0, 0);
        }
        for (int call : new int[] {14, 15, 16, 17}) {
            ask(seed, call, 1, 0, 0);
        }
    }

    public static void main(String[] args) {
        for (long seed = 1; seed <= RUNS; seed++) {
            new RandomRunsTest(seed).run(seed);
        }
        Check.end("RandomRunsTest");
    }
}
