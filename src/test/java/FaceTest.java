import java.lang.reflect.Constructor;
import java.lang.reflect.Field;
import java.lang.reflect.Method;
import java.lang.reflect.Modifier;
import java.util.Set;
import java.util.TreeSet;

/** The face has the document's constants, constructor and methods, and nothing else that is seen. */
public final class FaceTest {
    private static final String INDEX = "IndexOutOfBoundsException";
    private static final String ARGUMENT = "IllegalArgumentException";
    private static final String STATE = "IllegalStateException";

    private static final String[] METHODS = {
        "int setClimate(int,int) " + INDEX + " " + ARGUMENT,
        "int addBox(int,int,int) " + ARGUMENT + " " + STATE,
        "int bestSpot(int) " + INDEX + " " + STATE,
        "int lay(int) " + INDEX + " " + STATE,
        "int spotOf(int) " + INDEX,
        "int boxAt(int) " + INDEX,
        "int weight(int) " + INDEX,
        "int wrong()",
        "int open(int) " + INDEX + " " + STATE,
        "int opened()",
        "int openedByMoves()",
        "int goIn(int) " + INDEX + " " + STATE,
        "int goOut(int) " + INDEX + " " + STATE,
        "boolean doubt(int) " + INDEX,
        "boolean look() " + STATE,
        "boolean stall(boolean)",
        "int smoke(boolean)",
        "int pass(int) " + ARGUMENT + " " + STATE,
        "int order(int,int) " + INDEX + " " + ARGUMENT + " " + STATE,
        "int nextAisle()",
        "int fetch(int) " + INDEX + " " + STATE,
        "boolean giveBack(int,int,int) " + INDEX + " " + STATE,
        "int waiting()",
        "int late()",
    };

    private static String join(String between, Class<?>[] classes) {
        StringBuilder text = new StringBuilder();
        for (Class<?> one : classes) {
            text.append(text.length() == 0 ? "" : between).append(one.getSimpleName());
        }
        return text.toString();
    }

    private static String signature(Method method) {
        String head = method.getReturnType().getSimpleName() + " " + method.getName()
                + "(" + join(",", method.getParameterTypes()) + ")";
        String thrown = join(" ", method.getExceptionTypes());
        return thrown.isEmpty() ? head : head + " " + thrown;
    }

    private static Set<String> seenMethods() {
        Set<String> seen = new TreeSet<>();
        for (Method method : Rackrail.class.getDeclaredMethods()) {
            if (Modifier.isPrivate(method.getModifiers())) {
                for (String line : METHODS) {
                    Check.same("a private " + method.getName(), false, line.contains(" " + method.getName() + "("));
                }
            } else {
                Check.same(method.getName() + " is public", true, Modifier.isPublic(method.getModifiers()));
                Check.same(method.getName() + " is static", false, Modifier.isStatic(method.getModifiers()));
                seen.add(signature(method));
            }
        }
        return seen;
    }

    private static void testMethods() {
        Check.sameText("the methods", new TreeSet<>(Set.of(METHODS)).toString(), seenMethods().toString());
    }

    private static void testFields() {
        for (Field field : Rackrail.class.getDeclaredFields()) {
            int modifiers = field.getModifiers();
            if (!field.getName().equals("NONE")) {
                Check.same("the field " + field.getName() + " is private", true, Modifier.isPrivate(modifiers));
            }
            if (Modifier.isStatic(modifiers)) {
                Check.same("the field " + field.getName() + " is final", true, Modifier.isFinal(modifiers));
            }
        }
        Check.same("NONE", -1, Rackrail.NONE);
    }

    private static void testClass() {
        Check.same("the class is public", true, Modifier.isPublic(Rackrail.class.getModifiers()));
        Check.same("the class is final", true, Modifier.isFinal(Rackrail.class.getModifiers()));
        Constructor<?>[] constructors = Rackrail.class.getDeclaredConstructors();
        Check.same("the constructors", 1, constructors.length);
        Check.same("its parameters", 0, constructors[0].getParameterCount());
        Check.same("it is public", true, Modifier.isPublic(constructors[0].getModifiers()));
    }

    public static void main(String[] args) {
        testMethods();
        testFields();
        testClass();
        Check.end("FaceTest");
    }
}
