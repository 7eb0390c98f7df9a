import java.util.ArrayList;
import java.util.List;

/** Counts what is not as due, and tells it at the end. */
final class Check {
    interface Call {
        long answer();
    }

    private static final List<String> FAULTS = new ArrayList<>();
    private static int asked = 0;

    private Check() {
    }

    static void same(String what, long due, long got) {
        asked++;
        if (due != got) {
            FAULTS.add(what + " answered " + got + ", due is " + due);
        }
    }

    static void same(String what, boolean due, boolean got) {
        same(what, due ? 1 : 0, got ? 1 : 0);
    }

    static void sameText(String what, String due, String got) {
        asked++;
        if (!due.equals(got)) {
            FAULTS.add(what + " answered " + got + ", due is " + due);
        }
    }

    static void noIndex(String what, Call call) {
        sameText(what, "throws.IndexOutOfBoundsException", answerOf(call));
    }

    static void noArgument(String what, Call call) {
        sameText(what, "throws.IllegalArgumentException", answerOf(call));
    }

    static void noState(String what, Call call) {
        sameText(what, "throws.IllegalStateException", answerOf(call));
    }

    /** The answer as a text; an exception by its own class, so that one below it is told apart. */
    static String answerOf(Call call) {
        try {
            return Long.toString(call.answer());
        } catch (RuntimeException e) {
            return "throws." + e.getClass().getSimpleName();
        }
    }

    static void end(String name) {
        for (String fault : FAULTS) {
            System.out.println(name + ": " + fault);
        }
        System.out.println(name + ": " + asked + " answers asked, " + FAULTS.size() + " not as due");
        if (asked == 0 || !FAULTS.isEmpty()) {
            System.exit(1);
        }
    }
}
