import java.util.ArrayList;
import java.util.Comparator;
import java.util.List;
import java.util.Map;
import java.util.Optional;
import java.util.TreeMap;
import java.util.TreeSet;
import java.util.stream.Stream;

/**
 * The document once more, written another way than the class: spots hold boxes in a map, the rail is
 * a row of signs with a gap in it, and orders are sorted. Answers are texts as Check.answerOf tells.
 */
final class Model {
    private static final String INDEX = "throws.IndexOutOfBoundsException";
    private static final String ARGUMENT = "throws.IllegalArgumentException";
    private static final String STATE = "throws.IllegalStateException";

    private record Box(int climate, int weight, int kin) {
    }

    private record Order(int number, int box, int deadline) {
    }

    private final int[] climates = new int[6];
    private final List<Box> boxes = new ArrayList<>();
    private final TreeMap<Integer, Integer> lying = new TreeMap<>();
    private final List<Order> openOrders = new ArrayList<>();
    private final TreeSet<Integer> inside = new TreeSet<>();
    private final TreeSet<Integer> doubts = new TreeSet<>();
    private final StringBuilder row = new StringBuilder("_abcdef");
    private String wanted = "_abcdef";
    private int orders = 0;
    private int late = 0;
    private int clock = 0;
    private boolean stalled = false;
    private boolean smoke = false;

    /** The answer that is due to the call of this number, with as many of the numbers as it takes. */
    String answer(int call, int a, int b, int c) {
        return switch (call) {
            case 0 -> setClimate(a, b);
            case 1 -> addBox(a, b, c);
            case 2 -> bestSpot(a);
            case 3 -> lay(a);
            case 4 -> !isBox(a) ? INDEX : "" + spotOf(a);
            case 5 -> !isSpot(a) ? INDEX : "" + lying.getOrDefault(a, -1);
            case 6 -> !in(a, 0, 5) ? INDEX : "" + weight(a);
            case 7 -> "" + lying.entrySet().stream().filter(this::isWrong).count();
            case 8 -> open(a);
            case 9, 10 -> "" + opened();
            case 11 -> goIn(a);
            case 12 -> !in(a, 0, 3) ? INDEX : !inside.remove(a) ? STATE : "" + inside.size();
            case 13 -> !in(a, 0, 6) ? INDEX : bit(doubts.add(a));
            case 14 -> opened() < 0 ? STATE : bit(doubts.remove(opened()));
            case 15 -> stall(a > 0);
            case 16 -> smoke(a > 0);
            case 17 -> pass(a);
            case 18 -> order(a, b);
            case 19 -> "" + earliest(0, 6).map(o -> aisleOf(spotOf(o.box))).orElse(-1);
            case 20 -> fetch(a);
            case 21 -> giveBack(a, b, c);
            case 22 -> "" + openOrders.size();
            default -> "" + late;
        };
    }

    int boxCount() {
        return boxes.size();
    }

    private static String bit(boolean is) {
        return is ? "1" : "0";
    }

    private static boolean in(int number, int first, int last) {
        return first <= number && number <= last;
    }

    private boolean isBox(int box) {
        return in(box, 0, boxes.size() - 1);
    }

    private static List<Integer> allSpots() {
        List<Integer> spots = new ArrayList<>();
        for (int shelf = 0; shelf < 600; shelf += 100) {
            spots.addAll(List.of(shelf, shelf + 1, shelf + 2, shelf + 10, shelf + 11, shelf + 12));
        }
        return spots;
    }

    private static boolean isSpot(int spot) {
        return allSpots().contains(spot);
    }

    private static int aisleOf(int spot) {
        return spot % 100 < 10 ? spot / 100 : spot / 100 + 1;
    }

    private int spotOf(int box) {
        return lying.entrySet().stream().filter(e -> e.getValue() == box).mapToInt(Map.Entry::getKey)
                .findFirst().orElse(-1);
    }

    private Stream<Box> onShelf(int shelf) {
        return lying.subMap(100 * shelf, 100 * shelf + 100).values().stream().map(boxes::get);
    }

    private int weight(int shelf) {
        return onShelf(shelf).mapToInt(Box::weight).sum();
    }

    private boolean isWrong(Map.Entry<Integer, Integer> spotAndBox) {
        return climates[spotAndBox.getKey() / 100] != boxes.get(spotAndBox.getValue()).climate;
    }

    private String setClimate(int shelf, int climate) {
        if (!in(shelf, 0, 5)) {
            return INDEX;
        }
        if (!in(climate, 0, 2)) {
            return ARGUMENT;
        }
        int before = climates[shelf];
        climates[shelf] = climate;
        return "" + before;
    }

    private String addBox(int climate, int weight, int kin) {
        if (!in(climate, 0, 2) || !in(weight, 1, 60) || !in(kin, 0, 9)) {
            return ARGUMENT;
        }
        if (boxes.size() == 20) {
            return STATE;
        }
        boxes.add(new Box(climate, weight, kin));
        return "" + (boxes.size() - 1);
    }

    private String bestSpot(int box) {
        if (!isBox(box)) {
            return INDEX;
        }
        if (spotOf(box) >= 0) {
            return STATE;
        }
        Box it = boxes.get(box);
        return "" + allSpots().stream()
                .filter(s -> !lying.containsKey(s))
                .filter(s -> climates[s / 100] == it.climate)
                .filter(s -> weight(s / 100) + it.weight <= 100)
                .min(Comparator.comparing((Integer s) -> -onShelf(s / 100).filter(o -> o.kin == it.kin).count())
                        .thenComparing(s -> s))
                .orElse(-1);
    }

    private String lay(int box) {
        String best = bestSpot(box);
        if (best.equals("-1")) {
            return STATE;
        }
        if (!best.startsWith("throws")) {
            lying.put(Integer.parseInt(best), box);
        }
        return best;
    }

    private int opened() {
        return row.toString().equals(wanted) ? wanted.indexOf('_') : -1;
    }

    private String open(int aisle) {
        if (!in(aisle, 0, 6)) {
            return INDEX;
        }
        if (!inside.isEmpty() || opened() < 0 || doubts.contains(opened()) || stalled || smoke) {
            return STATE;
        }
        wanted = new StringBuilder("abcdef").insert(aisle, '_').toString();
        return "" + Math.abs(aisle - row.indexOf("_"));
    }

    private String goIn(int person) {
        if (!in(person, 0, 3)) {
            return INDEX;
        }
        if (inside.contains(person) || opened() < 0 || smoke) {
            return STATE;
        }
        inside.add(person);
        return "" + inside.size();
    }

    private String stall(boolean is) {
        boolean before = stalled;
        stalled = is;
        return bit(before != is);
    }

    private String smoke(boolean is) {
        smoke = is;
        int going = is ? inside.size() : 0;
        if (is) {
            inside.clear();
        }
        return "" + going;
    }

    private void passOneMinute() {
        clock++;
        int gap = row.indexOf("_");
        int way = Integer.signum(wanted.indexOf('_') - gap);
        if (!stalled && !smoke && way != 0) {
            row.setCharAt(gap, row.charAt(gap + way));
            row.setCharAt(gap + way, '_');
        }
    }

    private String pass(int minutes) {
        if (!in(minutes, 1, 100)) {
            return ARGUMENT;
        }
        if (clock + minutes > 10000) {
            return STATE;
        }
        for (int minute = 0; minute < minutes; minute++) {
            passOneMinute();
        }
        return "" + clock;
    }

    private String order(int box, int deadline) {
        if (!isBox(box)) {
            return INDEX;
        }
        if (!in(deadline, 0, 10000)) {
            return ARGUMENT;
        }
        if (openOrders.stream().anyMatch(o -> o.box == box) || orders == 30) {
            return STATE;
        }
        openOrders.add(new Order(orders, box, deadline));
        orders++;
        return "" + (orders - 1);
    }

    private Optional<Order> earliest(int firstAisle, int lastAisle) {
        return openOrders.stream()
                .filter(o -> spotOf(o.box) >= 0 && in(aisleOf(spotOf(o.box)), firstAisle, lastAisle))
                .min(Comparator.comparing(Order::deadline).thenComparing(Order::number));
    }

    private String fetch(int person) {
        if (!in(person, 0, 3)) {
            return INDEX;
        }
        Optional<Order> found = earliest(opened(), opened());
        if (!inside.contains(person) || found.isEmpty()) {
            return STATE;
        }
        Order done = found.get();
        openOrders.remove(done);
        lying.remove(spotOf(done.box));
        late += clock > done.deadline ? 1 : 0;
        return "" + done.number;
    }

    private String giveBack(int person, int box, int spot) {
        if (!in(person, 0, 3) || !isBox(box) || !isSpot(spot)) {
            return INDEX;
        }
        if (!inside.contains(person) || spotOf(box) >= 0 || aisleOf(spot) != opened() || lying.containsKey(spot)) {
            return STATE;
        }
        lying.put(spot, box);
        return bit(climates[spot / 100] == boxes.get(box).climate);
    }
}
