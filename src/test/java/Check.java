import java.util.function.LongSupplier;

/** Counts and prints the answers that are not as due. */
final class Check {
    private int wrong = 0;

    void due(String what, long got, long want) {
        if (got != want) {
            tell(what, String.valueOf(got), String.valueOf(want));
        }
    }

    void due(String what, boolean got, boolean want) {
        if (got != want) {
            tell(what, String.valueOf(got), String.valueOf(want));
        }
    }

    /** The call must throw this very class, by a throw statement of the program, not by the machine. */
    void dueThrow(String what, LongSupplier call, Class<? extends RuntimeException> want) {
        dueText(what, answer(call), want.getSimpleName());
    }

    void dueText(String what, String got, String want) {
        if (!got.equals(want)) {
            tell(what, got, want);
        }
    }

    /** A call's answer as a text: the number, or the simple name of what it throws. */
    static String answer(LongSupplier call) {
        try {
            return String.valueOf(call.getAsLong());
        } catch (RuntimeException e) {
            return nameOf(e);
        }
    }

    /** A division's exception has the class that axle throws; only its text tells that the machine threw it. */
    private static String nameOf(RuntimeException e) {
        boolean isOfMachine = e instanceof ArithmeticException && "/ by zero".equals(e.getMessage());
        return e.getClass().getSimpleName() + (isOfMachine ? " by the machine" : "");
    }

    void end(String test) {
        System.out.println(test + ": " + (wrong == 0 ? "all answers are as due" : wrong + " answers are not as due"));
        if (wrong != 0) {
            System.exit(1);
        }
    }

    private void tell(String what, String got, String want) {
        wrong++;
        if (wrong <= 50) {
            System.out.println(what + " answered " + got + ", due is " + want);
        }
    }
}
