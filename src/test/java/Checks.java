/** Counts what is not as it should be, and says so. */
final class Checks {
    /** A call that may throw. */
    interface Call {
        Object answer();
    }

    private final String name;
    private int done;
    private int wrong;

    Checks(String name) {
        this.name = name;
    }

    /** What a call does: its answer, or the exception that it throws. */
    static String outcome(Call call) {
        try {
            return text(call.answer());
        } catch (RuntimeException e) {
            return "throws." + e.getClass().getSimpleName();
        }
    }

    /** An int and a double of the same size read alike, but 0.0 and -0.0 do not. */
    private static String text(Object answer) {
        return answer instanceof Integer number ? String.valueOf((double) number) : String.valueOf(answer);
    }

    void same(String what, String got, String due) {
        done++;
        if (!got.equals(due)) {
            wrong++;
            System.out.println(name + ": " + what + " is " + got + ", due is " + due);
        }
    }

    void is(String what, Object due, Call call) {
        same(what, outcome(call), text(due));
    }

    void end() {
        System.out.println(name + ": " + done + " checks, " + wrong + " wrong");
        if (wrong != 0 || done == 0) {
            System.exit(1);
        }
    }
}
