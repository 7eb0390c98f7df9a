import java.util.function.Supplier;

/**
 * All that can be found out about an object by its answers, as one text. Finding it out uses the
 * object up: fewer than 300 calls, so that one may have been called some 210 times before.
 */
final class State {
    private static final int MOST_BOXES = 20;

    private final Rackrail x;
    private final StringBuilder told = new StringBuilder();

    private State(Rackrail x) {
        this.x = x;
    }

    static String of(Rackrail x) {
        State state = new State(x);
        state.askAll();
        state.sendOut();
        state.changeClimates();
        state.letGoOn();
        state.walk();
        state.enterMore();
        return state.told.toString();
    }

    /** The answer as a text; an exception by its own class, so that one below it is told apart. */
    static String answer(Supplier<Object> call) {
        try {
            return call.get().toString();
        } catch (RuntimeException e) {
            return "throws." + e.getClass().getSimpleName();
        }
    }

    private String tell(String what, Supplier<Object> call) {
        String answer = answer(call);
        told.append(what).append(' ').append(answer).append("; ");
        return answer;
    }

    private void askAll() {
        tell("opened", x::opened);
        tell("openedByMoves", x::openedByMoves);
        tell("wrong", x::wrong);
        tell("nextAisle", x::nextAisle);
        tell("waiting", x::waiting);
        tell("late", x::late);
        for (int shelf = 0; shelf < 6; shelf++) {
            int it = shelf;
            tell("weight of " + it, () -> x.weight(it));
            for (int spot : Made.spotsOf(shelf)) {
                tell("boxAt " + spot, () -> x.boxAt(spot));
            }
        }
        for (int box = 0; box < MOST_BOXES; box++) {
            int it = box;
            tell("spotOf " + it, () -> x.spotOf(it));
        }
    }

    private void sendOut() {
        for (int person = 0; person < 4; person++) {
            int it = person;
            tell("goOut " + it, () -> x.goOut(it));
        }
        tell("goIn", () -> x.goIn(0));
        tell("goOut", () -> x.goOut(0));
    }

    /** What suits a climate tells those of the boxes, and where it suits their weights and kins. */
    private void changeClimates() {
        askBestSpots();
        for (int climate = 0; climate < 3; climate++) {
            int it = climate;
            for (int shelf = 0; shelf < 6; shelf++) {
                int on = shelf;
                tell("setClimate of " + on, () -> x.setClimate(on, it));
            }
            tell("wrong", x::wrong);
            askBestSpots();
        }
    }

    private void askBestSpots() {
        for (int box = 0; box < MOST_BOXES; box++) {
            int it = box;
            tell("bestSpot of " + it, () -> x.bestSpot(it));
        }
    }

    private void letGoOn() {
        for (int minute = 0; minute < 6; minute++) {
            tell("pass", () -> x.pass(1));
            tell("opened", x::opened);
            tell("openedByMoves", x::openedByMoves);
        }
        tell("stall", () -> x.stall(false));
        tell("pass", () -> x.pass(1));
        tell("opened", x::opened);
        tell("smoke", () -> x.smoke(false));
        tell("pass", () -> x.pass(6));
        tell("opened", x::opened);
    }

    /** From aisle to aisle: a look tells of a doubt, and fetching tells the orders by deadline. */
    private void walk() {
        tell("look", x::look);
        for (int aisle = 0; aisle < 7; aisle++) {
            int it = aisle;
            tell("open " + it, () -> x.open(it));
            tell("pass", () -> x.pass(6));
            tell("look", x::look);
            tell("goIn", () -> x.goIn(0));
            fetchAll();
            tell("goOut", () -> x.goOut(0));
        }
        tell("late", x::late);
    }

    private void fetchAll() {
        for (int order = 0; order <= MOST_BOXES; order++) {
            if (tell("fetch", () -> x.fetch(0)).startsWith("throws.")) {
                return;
            }
        }
    }

    private void enterMore() {
        for (int box = 0; box < MOST_BOXES; box++) {
            int it = box;
            tell("order for " + it, () -> x.order(it, 0));
        }
        tell("addBox", () -> x.addBox(0, 1, 0));
        tell("doubt", () -> x.doubt(0));
    }
}
