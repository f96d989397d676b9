/** Compares what a crane answers with what is due, and sees that questions and refused calls change nothing. */
final class Check {
    interface Call {
        Object answer();
    }

    static final String STATE = "throws.IllegalStateException";
    static final String ARGUMENT = "throws.IllegalArgumentException";
    static final String INDEX = "throws.IndexOutOfBoundsException";
    /** What no argument of the class may be. */
    static final int[] FAR_OFF = {Integer.MIN_VALUE, -1000, 1000, Integer.MAX_VALUE};

    private static int wrong = 0;

    private final String promise;
    private final CraneReach crane;

    Check(String promise, CraneReach crane) {
        this.promise = promise;
        this.crane = crane;
    }

    /** The call may change the crane. */
    void does(String call, Call made, Object due) {
        compare(promise + ": " + call, answer(made), String.valueOf(due));
    }

    /**
     * The call may not change the crane: a question, or one that is refused.
     * digest() tells of all there is by one call, so that an object stays below the 512 calls that it is used for.
     */
    void asks(String call, Call made, Object due) {
        String before = answer(crane::digest);
        does(call, made, due);
        compare(promise + ": digest() behind " + call, answer(crane::digest), before);
    }

    static void compare(String what, String got, String due) {
        if (!got.equals(due)) {
            wrong++;
            System.out.println(what + " answered " + got + ", due is " + due);
        }
    }

    static String answer(Call call) {
        try {
            return String.valueOf(call.answer());
        } catch (RuntimeException e) {
            return "throws." + e.getClass().getSimpleName();
        }
    }

    static String everything(CraneReach x) {
        StringBuilder text = new StringBuilder();
        text.append(x.direction()).append(' ').append(x.reach()).append(' ').append(x.load());
        text.append(' ').append(x.plates()).append(' ').append(x.lifts()).append(' ').append(x.tonsLifted());
        text.append(' ').append(x.movesWithLoad()).append(' ').append(x.meanLoad()).append(';');
        for (int side = 0; side < 4; side++) {
            text.append(' ').append(x.outrigger(side)).append(' ').append(x.strainOn(side));
        }
        text.append(';');
        for (int reach = 3; reach <= 30; reach++) {
            text.append(' ').append(x.limitAt(reach));
        }
        return text.append("; ").append(x.digest()).toString();
    }

    static void close() {
        if (wrong != 0) {
            System.out.println(wrong + " answers are not as due");
            System.exit(1);
        }
    }
}
