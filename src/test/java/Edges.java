/** Calls at the edges of what is allowed, each of them on a new object that is made in the same way. */
final class Edges {
    static final String INDEX = "IndexOutOfBoundsException";
    static final String ARGUMENT = "IllegalArgumentException";
    static final String STATE = "IllegalStateException";

    interface Making {
        Haltingale made();
    }

    interface Call {
        Object on(Haltingale x);
    }

    interface CallWith {
        Object on(Haltingale x, int number);
    }

    private final Checks checks;
    private final Making making;

    Edges(Checks checks, Making making) {
        this.checks = checks;
        this.making = making;
    }

    /** Checks that a call throws nothing. */
    void allows(String what, Call call) {
        String outcome = Checks.outcome(() -> call.on(making.made()));
        checks.same(what, outcome.startsWith("throws.") ? outcome : "allowed", "allowed");
    }

    /** Checks that a call throws the exception of that name, and that nothing has changed behind it. */
    void refuses(String what, String exception, Call call) {
        Haltingale x = making.made();
        String before = stateOf(x);
        checks.same(what, Checks.outcome(() -> call.on(x)), "throws." + exception);
        checks.same(what + ": all of it then", stateOf(x), before);
    }

    /** Checks that the least and the greatest number are allowed, and none beyond them, near or far. */
    void range(String what, String exception, int least, int greatest, CallWith call) {
        for (int number : new int[] {least, greatest}) {
            allows(what + " " + number, x -> call.on(x, number));
        }
        for (int number : new int[] {least - 1, greatest + 1, Integer.MIN_VALUE, Integer.MAX_VALUE}) {
            refuses(what + " " + number, exception, x -> call.on(x, number));
        }
    }

    private static String stateOf(Haltingale x) {
        StringBuilder state = new StringBuilder();
        state.append(x.digest()).append(' ').append(x.meanStop());
        int machines = x.many(0);
        for (int machine = 0; machine < machines; machine++) {
            state.append(' ').append(x.gramIn(machine));
        }
        int tags = x.many(6);
        for (int tag = 0; tag < tags; tag++) {
            state.append(' ').append(x.tagged(tag, 1000, 1)).append(' ').append(x.tagged(tag, 600, 1));
        }
        return state.toString();
    }
}
