import java.util.NoSuchElementException;

/** Counts and prints the calls whose answer is not the one that is due. */
final class Due {
    static final Class<NoSuchElementException> NONE = NoSuchElementException.class;
    static final Class<IllegalArgumentException> ARGUMENT = IllegalArgumentException.class;
    static final Class<IllegalStateException> STATE = IllegalStateException.class;
    static final Class<IndexOutOfBoundsException> BOUNDS = IndexOutOfBoundsException.class;
    static final Class<ArithmeticException> ARITHMETIC = ArithmeticException.class;

    /** A call of the face whose answer is an int, a long or a double. */
    interface Call {
        Object answer();
    }

    private final String test;
    private String words = "";
    private int wrong;
    private int looked;

    Due(String test) {
        this.test = test;
    }

    /** A test of its own for what the document says in these words; one that looks at nothing fails. */
    void sentence(String quoted, Runnable look) {
        words = " [" + quoted + "]";
        int before = looked;
        try {
            look.run();
        } catch (RuntimeException e) {
            tell("a call that is not refused", "throws " + e, "an answer");
        }
        if (looked == before) {
            tell("the test", "looked at nothing", "a look");
        }
        words = "";
    }

    void same(String call, long got, long want) {
        looked++;
        if (got != want) {
            tell(call, String.valueOf(got), String.valueOf(want));
        }
    }

    /** Bit by bit, so that 0.0 is not -0.0. */
    void same(String call, double got, double want) {
        looked++;
        if (Double.doubleToLongBits(got) != Double.doubleToLongBits(want)) {
            tell(call, String.valueOf(got), String.valueOf(want));
        }
    }

    void same(String call, String got, String want) {
        looked++;
        if (!got.equals(want)) {
            tell(call, got, want);
        }
    }

    void isTrue(String what, boolean got) {
        same(what, String.valueOf(got), "true");
    }

    /** The very class, since a subclass is not what the document says. */
    void refused(String call, Class<? extends RuntimeException> want, Call made) {
        same(call, answerOf(made), "throws " + want.getName());
    }

    static String answerOf(Call made) {
        try {
            return String.valueOf(made.answer());
        } catch (RuntimeException e) {
            return "throws " + e.getClass().getName();
        }
    }

    void end() {
        System.out.println(test + ": " + looked + " answers looked at, " + wrong + " not as due");
        if (wrong != 0 || looked == 0) {
            System.exit(1);
        }
    }

    private void tell(String call, String got, String want) {
        wrong++;
        System.out.println(test + words + ": " + call + " answered " + got + ", due is " + want);
    }
}
