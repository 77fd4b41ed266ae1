import java.util.NoSuchElementException;

/** Counts the calls whose answer is not the one that is due. */
final class Checks {
    static final Object INDEX = IndexOutOfBoundsException.class;
    static final Object ARGUMENT = IllegalArgumentException.class;
    static final Object STATE = IllegalStateException.class;
    static final Object UNSUPPORTED = UnsupportedOperationException.class;
    static final Object ARITHMETIC = ArithmeticException.class;
    static final Object NONE = NoSuchElementException.class;

    interface Call {
        Object answer();
    }

    private int wrong = 0;
    private int looked = 0;

    static Traversehall land(int points) {
        Traversehall land = new Traversehall();
        for (int point = 0; point < points; point++) {
            land.addPoint();
        }
        return land;
    }

    /** The answer due is a number, a truth value, or the class of the exception that is due. */
    void due(int promise, String what, Object want, Call call) {
        Object got;
        try {
            got = call.answer();
        } catch (RuntimeException e) {
            got = e.getClass();
        }
        looked++;
        if (!same(got, want)) {
            wrong++;
            System.out.println("promise " + promise + ": " + what + " answered " + got + ", due is " + want);
        }
    }

    /** A fraction is due from a call for its top and a call for its bottom. */
    void dueFraction(int promise, String what, long top, long bottom, Call topCall, Call bottomCall) {
        due(promise, what + " (top)", top, topCall);
        due(promise, what + " (bottom)", bottom, bottomCall);
    }

    private static boolean same(Object got, Object want) {
        boolean whole = (got instanceof Integer || got instanceof Long)
                && (want instanceof Integer || want instanceof Long);
        return whole ? ((Number) got).longValue() == ((Number) want).longValue() : want.equals(got);
    }

    void end() {
        System.out.println(looked + " looked at, " + wrong + " wrong");
        if (wrong != 0 || looked == 0) {
            System.exit(1);
        }
    }
}
