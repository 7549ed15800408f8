import java.util.concurrent.Callable;

/** Counts what is as it should be, and prints what is not. */
final class Check {
    static int passed;
    static int failed;

    private Check() {
    }

    static void equal(String what, Object got, Object due) {
        if (due.equals(got)) {
            passed++;
        } else {
            failed++;
            System.out.println(what + ": answered " + got + ", due is " + due);
        }
    }

    /** The very class is due, as a machine's exception may stand below the one that is promised. */
    static void throwing(String what, Class<? extends Exception> due, Callable<?> call) {
        equal(what, outcome(call), due.getName());
    }

    static String outcome(Callable<?> call) {
        try {
            return String.valueOf(call.call());
        } catch (Exception e) {
            return e.getClass().getName();
        }
    }

    static void range(String what, Callable<?> call) {
        throwing(what, IndexOutOfBoundsException.class, call);
    }

    static void argument(String what, Callable<?> call) {
        throwing(what, IllegalArgumentException.class, call);
    }

    static void state(String what, Callable<?> call) {
        throwing(what, IllegalStateException.class, call);
    }
}
