/** Counts what is not as it should be, and says so. */
final class Checks {
    /** A call that may throw. */
    interface Call {
        double answer();
    }

    private final String name;
    private int done;
    private int wrong;

    Checks(String name) {
        this.name = name;
    }

    /** What a call does: its answer, or the exception that it throws. */
    static String outcome(Call call) {
        try {
            return String.valueOf(call.answer());
        } catch (RuntimeException e) {
            return "throws." + e.getClass().getSimpleName();
        }
    }

    void same(String what, String got, String due) {
        done++;
        if (!got.equals(due)) {
            wrong++;
            System.out.println(name + ": " + what + " is " + got + ", due is " + due);
        }
    }

    void is(String what, double due, Call call) {
        same(what, outcome(call), String.valueOf(due));
    }

    void is(String what, boolean due, java.util.function.BooleanSupplier call) {
        same(what, outcome(() -> call.getAsBoolean() ? 1 : 0), due ? "1.0" : "0.0");
    }

    void noSuch(String what, Call call) {
        same(what, outcome(call), "throws.IndexOutOfBoundsException");
    }

    void badArgument(String what, Call call) {
        same(what, outcome(call), "throws.IllegalArgumentException");
    }

    void badState(String what, Call call) {
        same(what, outcome(call), "throws.IllegalStateException");
    }

    /** Checks that a call throws the exception of that name and leaves the digest as it was. */
    void refuses(Haltingale x, String exception, String what, Call call) {
        long before = x.digest();
        same(what, outcome(call), "throws." + exception);
        same(what + ": digest() then", String.valueOf(x.digest()), String.valueOf(before));
    }

    void end() {
        System.out.println(name + ": " + done + " checks, " + wrong + " wrong");
        if (wrong != 0 || done == 0) {
            System.exit(1);
        }
    }
}
