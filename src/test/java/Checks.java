import java.util.function.LongSupplier;

/** Counts and prints the answers that are not as due. */
final class Checks {
    /** What a call that throws answers in a comparison: no answer of the desk is that far out. */
    static final long ILLEGAL_ARGUMENT = Long.MIN_VALUE;
    static final long ILLEGAL_STATE = Long.MIN_VALUE + 1;
    static final long OUT_OF_BOUNDS = Long.MIN_VALUE + 2;

    private int made = 0;
    private int wrong = 0;

    static long answer(LongSupplier call) {
        try {
            return call.getAsLong();
        } catch (RuntimeException e) {
            return named(e);
        }
    }

    /** Only the very classes that the document names: what the machine throws has a class below them. */
    private static long named(RuntimeException e) {
        if (e.getClass() == IllegalArgumentException.class) {
            return ILLEGAL_ARGUMENT;
        }
        if (e.getClass() == IllegalStateException.class) {
            return ILLEGAL_STATE;
        }
        if (e.getClass() == IndexOutOfBoundsException.class) {
            return OUT_OF_BOUNDS;
        }
        throw e;
    }

    void due(String call, long want, LongSupplier got) {
        same(call, want, answer(got));
    }

    void same(String call, long want, long got) {
        made++;
        if (want != got) {
            wrong++;
            if (wrong <= 40) {
                System.out.println(call + " answered " + told(got) + ", due is " + told(want));
            }
        }
    }

    private static String told(long answer) {
        if (answer == ILLEGAL_ARGUMENT) {
            return "throws.IllegalArgumentException";
        }
        if (answer == ILLEGAL_STATE) {
            return "throws.IllegalStateException";
        }
        return answer == OUT_OF_BOUNDS ? "throws.IndexOutOfBoundsException" : Long.toString(answer);
    }

    void close() {
        System.out.println(made + " answers, " + wrong + " not as due");
        if (wrong != 0) {
            System.exit(1);
        }
    }
}
