import java.lang.reflect.InvocationTargetException;
import java.lang.reflect.Method;
import java.util.ArrayList;
import java.util.Arrays;
import java.util.List;
import java.util.Random;

/** All promises: long runs of mixed calls answer as ReferenceCrane does, the same runs each time. */
public final class ReferenceTest {
    private static final int RUNS = 800;
    private static final int CALLS = 512;
    private static final int[] ODD = {-1, 0, 61, 31, 2, 13, 9, Integer.MIN_VALUE, Integer.MAX_VALUE};
    /** Each method with what its parameters mean; those that change the crane stand more than once. */
    private static final String[] CALLED = {
        "setPlates plates", "setPlates plates", "setPlates plates",
        "setOutrigger side out", "setOutrigger side out", "setOutrigger side out",
        "setLimit reach limit", "setLimit reach limit", "setLimit reach limit",
        "lift load", "lift load", "lift load", "lift load", "setDown", "setDown",
        "swing steps way", "swing steps way", "swing steps way",
        "stretch metres way", "stretch metres way", "stretch metres way",
        "direction", "reach", "load", "plates", "outrigger side", "limitAt reach", "strainOn side", "weakestSide",
        "lifts", "tonsLifted", "movesWithLoad", "isSafeWith load direction reach", "greatestLoad",
        "farthestReach load direction", "safeDirections load reach", "platesNeeded load direction reach",
        "fewestMoves load direction reach", "fewestMoves load direction reach", "placesWithin load",
        "bestOutrigger load", "meanLoad",
    };
    private static final String[] DIGEST = {"digest"};

    private final Random random = new Random(29);
    private final List<String> run = new ArrayList<>();

    public static void main(String[] args) throws Exception {
        ReferenceTest test = new ReferenceTest();
        for (int number = 1; number <= RUNS; number++) {
            if (!test.runIsAsDue(number)) {
                break;
            }
        }
        Check.close();
    }

    /** Half of the runs ask for the digest behind each other call, the other half only as the last of the 512 calls. */
    private boolean runIsAsDue(int number) throws Exception {
        CraneReach crane = new CraneReach();
        ReferenceCrane reference = new ReferenceCrane();
        boolean heavy = random.nextBoolean();
        boolean closely = number % 2 == 0;
        run.clear();
        for (int at = 1; at <= CALLS; at++) {
            boolean digest = at == CALLS || closely && at % 2 == 0;
            String[] words = digest ? DIGEST : CALLED[random.nextInt(CALLED.length)].split(" ");
            Object[] given = new Object[words.length - 1];
            for (int i = 0; i < given.length; i++) {
                given[i] = argument(words[i + 1], heavy);
            }
            if (!callIsAsDue(number, words[0], given, crane, reference)) {
                return false;
            }
        }
        return true;
    }

    private boolean callIsAsDue(int number, String name, Object[] given, CraneReach crane, ReferenceCrane reference)
            throws Exception {
        String call = name + Arrays.toString(given);
        String due = answer(method(reference, name), reference, given);
        String got = answer(method(crane, name), crane, given);
        run.add(call + " -> " + got);
        boolean same = got.equals(due);
        if (!same) {
            Check.compare("run " + number + " " + run + ": " + call, got, due);
        }
        return same;
    }

    private static Method method(Object crane, String name) {
        for (Method method : crane.getClass().getMethods()) {
            if (method.getName().equals(name)) {
                return method;
            }
        }
        throw new IllegalStateException("no method is named " + name);
    }

    private static String answer(Method method, Object crane, Object[] given) throws Exception {
        try {
            return String.valueOf(method.invoke(crane, given));
        } catch (InvocationTargetException e) {
            return "throws." + e.getCause().getClass().getSimpleName();
        }
    }

    private Object argument(String kind, boolean heavy) {
        if (kind.equals("way")) {
            return random.nextInt(3) > 0;
        }
        if (random.nextInt(50) == 0) {
            return ODD[random.nextInt(ODD.length)];
        }
        switch (kind) {
            case "plates":
                return random.nextInt(13);
            case "side":
                return random.nextInt(4);
            case "out":
                return heavy ? 3 + random.nextInt(4) : random.nextInt(7);
            case "limit":
                return heavy ? 60 - random.nextInt(20) : random.nextInt(20);
            case "load":
                return random.nextInt(heavy ? 61 : 15);
            case "steps":
                return 1 + random.nextInt(8);
            case "metres":
                return 1 + random.nextInt(random.nextInt(30) + 1);
            case "direction":
                return random.nextInt(8);
            case "reach":
                return 3 + random.nextInt(28);
            default:
                throw new IllegalStateException("no kind of argument is named " + kind);
        }
    }
}
