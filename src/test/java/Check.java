import java.util.ArrayList;
import java.util.List;
import java.util.function.Function;
import java.util.function.Supplier;

/** Counts what is not as due, and tells it at the end. */
final class Check {
    static final String INDEX = "throws.IndexOutOfBoundsException";
    static final String ARGUMENT = "throws.IllegalArgumentException";
    static final String STATE = "throws.IllegalStateException";

    interface Call {
        long answer();
    }

    private static final List<String> FAULTS = new ArrayList<>();
    private static final List<Document.Sentence> SENTENCES = new ArrayList<>();
    private static int asked = 0;
    private static String sentence = "";

    private Check() {
    }

    static void same(String what, long due, long got) {
        asked++;
        if (due != got) {
            fault(what + " answered " + got + ", due is " + due);
        }
    }

    static void same(String what, boolean due, boolean got) {
        same(what, due ? 1 : 0, got ? 1 : 0);
    }

    static void sameText(String what, String due, String got) {
        asked++;
        if (!due.equals(got)) {
            fault(what + " answered " + got + ", due is " + due);
        }
    }

    private static void fault(String told) {
        FAULTS.add(sentence + told);
    }

    static void noIndex(String what, Call call) {
        sameText(what, INDEX, answerOf(call));
    }

    static void noArgument(String what, Call call) {
        sameText(what, ARGUMENT, answerOf(call));
    }

    static void noState(String what, Call call) {
        sameText(what, STATE, answerOf(call));
    }

    /** Runs the test of one sentence of the document; a test that asks nothing is a fault. */
    static void sentence(String section, String text, Runnable test) {
        SENTENCES.add(new Document.Sentence(section, text));
        sentence = section + ", '" + text + "': ";
        int before = asked;
        try {
            test.run();
        } catch (RuntimeException e) {
            fault("the test itself ended by " + e);
        }
        if (asked == before) {
            fault("nothing was asked");
        }
        sentence = "";
    }

    /** The sentences whose tests have run so far. */
    static List<Document.Sentence> sentences() {
        return List.copyOf(SENTENCES);
    }

    /** The call throws what is due, and leaves the object as it leaves one that was not called. */
    static void refused(String what, String due, Supplier<Rackrail> made, Function<Rackrail, Object> call) {
        Rackrail called = made.get();
        sameText(what, due, State.answer(() -> call.apply(called)));
        sameText(what + ", the state after it", State.of(made.get()), State.of(called));
    }

    /** The call answers, and leaves the object as it leaves one that was not called. */
    static void onlyAsks(String what, Supplier<Rackrail> made, Function<Rackrail, Object> call) {
        Rackrail called = made.get();
        same(what + " answers", false, State.answer(() -> call.apply(called)).startsWith("throws."));
        sameText(what + ", the state after it", State.of(made.get()), State.of(called));
    }

    /** The answer as a text; an exception by its own class, so that one below it is told apart. */
    static String answerOf(Call call) {
        try {
            return Long.toString(call.answer());
        } catch (RuntimeException e) {
            return "throws." + e.getClass().getSimpleName();
        }
    }

    static void end(String name) {
        for (String fault : FAULTS) {
            System.out.println(name + ": " + fault);
        }
        System.out.println(name + ": " + asked + " answers asked, " + FAULTS.size() + " not as due");
        if (asked == 0 || !FAULTS.isEmpty()) {
            System.exit(1);
        }
    }
}
