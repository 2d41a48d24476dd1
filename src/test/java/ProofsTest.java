/** Promises 7 to 9: prove, doubt, decide. */
public final class ProofsTest {
    private static final String INDEX = "IndexOutOfBoundsException";
    private static final String ARGUMENT = "IllegalArgumentException";
    private static final String STATE = "IllegalStateException";

    private final Checks checks = new Checks("ProofsTest");

    public static void main(String[] args) {
        ProofsTest test = new ProofsTest();
        test.proveRefuses();
        test.proveCounts();
        test.stop();
        test.cycleInPlace();
        test.cycleThatShifts();
        test.back();
        test.gram();
        test.doubt();
        test.decide();
        test.decideByTheFirst();
        test.checks.end();
    }

    private void takes(String table, int kind, int a, int b, boolean due) {
        checks.is(table + " taken by " + kind + ", " + a + ", " + b, due, () -> Tables.of(table).prove(0, kind, a, b));
    }

    private void proveRefuses() {
        Haltingale x = Tables.of("1RA 1RA  1RA 1RA");
        int[][] wrong = {
            {-1, 1, 0}, {4, 1, 0}, {Integer.MAX_VALUE, 1, 0}, {Integer.MIN_VALUE, 1, 0},
            {0, 0, 0}, {0, 501, 0}, {0, -1, 0}, {0, 1, 1}, {0, 1, -1},
            {1, -1, 1}, {1, 151, 1}, {1, 0, 0}, {1, 0, 151}, {1, 0, -1},
            {2, 0, 0}, {2, 7, 0}, {2, 1, 1}, {2, 1, -1},
            {3, 0, 0}, {3, 4, 0}, {3, 1, 1}, {3, 1, -1}};
        for (int[] w : wrong) {
            checks.refuses(x, ARGUMENT, "prove(0, " + w[0] + ", " + w[1] + ", " + w[2] + ")",
                    () -> x.prove(0, w[0], w[1], w[2]));
        }
        checks.refuses(x, INDEX, "prove of machine 1", () -> x.prove(1, 1, 0, 1));
        checks.refuses(x, INDEX, "no machine goes ahead of no KIND", () -> x.prove(-1, 9, 0, 1));
        checks.is("prove", true, () -> x.prove(0, 1, 0, 1));
        checks.refuses(x, STATE, "prove of a DECIDED machine", () -> x.prove(0, 1, 0, 1));
        checks.refuses(x, STATE, "prove of it by what is not taken", () -> x.prove(0, 0, 1, 0));
        checks.refuses(x, ARGUMENT, "a wrong a goes ahead of DECIDED", () -> x.prove(0, 1, 151, 1));
        int[][] right = {{0, 1, 0}, {0, 500, 0}, {1, 0, 1}, {1, 150, 150}, {2, 1, 0}, {2, 6, 0}, {3, 1, 0}, {3, 3, 0}};
        for (int[] r : right) {
            checks.is("prove by " + r[0] + ", " + r[1] + ", " + r[2], r[0] != 0,
                    () -> Tables.of("1RA 1RA  1RA 1RA").prove(0, r[0], r[1], r[2]));
        }
    }

    private void proveCounts() {
        Haltingale x = Tables.of("1RB 1LB  1LA 1RZ");
        checks.is("not taken", false, () -> x.prove(0, 0, 5, 0));
        checks.is("it is OPEN", -1, () -> x.ofMachine(0, 2));
        checks.is("many(7)", 1, () -> x.many(7));
        checks.is("many(8)", 0, () -> x.many(8));
        checks.is("taken", true, () -> x.prove(0, 0, 6, 0));
        checks.is("its KIND", 0, () -> x.ofMachine(0, 2));
        checks.is("its a", 6, () -> x.ofMachine(0, 3));
        checks.is("its b", 0, () -> x.ofMachine(0, 4));
        checks.is("many(7)", 2, () -> x.many(7));
        checks.is("many(8)", 1, () -> x.many(8));
        x.doubt(0);
        checks.is("many(7), as it is doubted", 2, () -> x.many(7));
        checks.is("many(8), as it is doubted", 1, () -> x.many(8));
        x.decide(0);
        checks.is("many(7), as it is decided", 2, () -> x.many(7));
        checks.is("many(8), as it is decided", 1, () -> x.many(8));
    }

    private void stop() {
        takes("1RB 1LB  1LA 1RZ", 0, 6, 0, true);
        takes("1RB 1LB  1LA 1RZ", 0, 5, 0, false);
        takes("1RB 1LB  1LA 1RZ", 0, 7, 0, false);
        takes("1RB 1LB  1LA 1RZ", 0, 500, 0, false);
        takes("1RB 1LB  1LA 0LC  1RZ 1LD  1RD 0RA", 0, 107, 0, true);
        takes("1RB ---  --- ---", 0, 1, 0, false);
        takes("1RZ ---  --- ---", 0, 1, 0, true);
    }

    private void cycleInPlace() {
        String there = "0RB ---  0LA ---";
        takes(there, 1, 0, 2, true);
        takes(there, 1, 0, 1, false);
        takes(there, 1, 1, 2, true);
        takes(there, 1, 150, 150, true);
        takes(there, 1, 149, 149, false);
        // In the same STATE and PLACE behind 0 and 2 STEPS, but the tape is not the same until behind 2.
        String late = "1RB 1RB  1LA 1LA";
        takes(late, 1, 0, 2, false);
        takes(late, 1, 1, 2, false);
        takes(late, 1, 2, 2, true);
        // It HANGS, or STOPS, ahead of so many STEPS.
        takes("0RB ---  --- ---", 1, 0, 2, false);
        takes("0RB ---  0LZ ---", 1, 0, 2, false);
        takes("0RB ---  --- ---", 1, 5, 1, false);
        takes("0RB ---  0LZ ---", 1, 2, 1, false);
        takes("0RZ ---  0LA ---", 1, 1, 1, false);
    }

    private void cycleThatShifts() {
        takes("1RA ---  --- ---", 1, 0, 1, true);
        takes("1RA ---  --- ---", 1, 150, 150, true);
        takes("1LA ---  --- ---", 1, 0, 1, true);
        takes("1LA ---  --- ---", 1, 150, 150, true);
        takes("1RB ---  1RA ---", 1, 0, 2, true);
        takes("1RB ---  1RA ---", 1, 0, 3, false);
        // To the right it looks back by one PLACE each time (at what it wrote), and the same to the left.
        String right = "1RB 1RB  0LC ---  --- 1RA";
        checks.is(right + " goes on", 1, () -> Tables.of(right).at(0, 500, 0) == 500 ? 1 : 0);
        takes(right, 1, 0, 3, true);
        String left = "1LB 1LB  0RC ---  --- 1LA";
        takes(left, 1, 0, 3, true);
        // 5214 by cycleIn(): 26 and 14 are the smallest; neither less of a nor of b will do.
        String slow = "1LB 1LA  1LC 1RD  1RB 1RC  1LA 0RB";
        takes(slow, 1, 26, 14, true);
        takes(slow, 1, 25, 14, false);
        takes(slow, 1, 26, 13, false);
        takes(slow, 1, 26, 28, true);
    }

    private void back() {
        // No end at all: there is no ROW at any depth.
        takes("0RB 1LA  1LA 1RB", 2, 1, 0, true);
        takes("0RB 1LA  1LA 1RB", 2, 6, 0, true);
        String two = "1RB 1LA  1LA 1RB  0RD 0LA  0RZ 0LA";
        takes(two, 2, 1, 0, false);
        takes(two, 2, 2, 0, true);
        takes(two, 2, 6, 0, true);
        String six = "1LA 1RB  1RC 0RC  0RZ 1LA";
        takes(six, 2, 5, 0, false);
        takes(six, 2, 6, 0, true);
        // There are 2, 2 and 8 ROWS, more than are held at the depth of any other machine that goes on.
        String many = "0RB 1LD  0LA 0LA  0LA 0LA  --- ---";
        takes(many, 2, 2, 0, false);
        takes(many, 2, 3, 0, true);
        // No ROW at the depth 1, but the machine HANGS or STOPS.
        takes("1RZ 1LB  1RB 1RB", 2, 1, 0, false);
        takes("--- 1LB  1RB 1RB", 2, 1, 0, false);
        takes("1RB 1LB  1LA 1RZ", 2, 6, 0, false);
    }

    private void gram() {
        takes("0LB 0RA  1RA 1LB  --- 0RC", 3, 1, 0, true);
        String two = "1RB 1LZ  1LC 1RB  1LA 1LC";
        takes(two, 3, 1, 0, false);
        takes(two, 3, 2, 0, true);
        takes(two, 3, 3, 0, true);
        String three = "1RC 0LB  1LA 0LZ  1LA 0RA";
        takes(three, 3, 2, 0, false);
        takes(three, 3, 3, 0, true);
        // The same, left and right exchanged.
        takes("1LC 0RB  1RA 0RZ  1RA 0LA", 3, 2, 0, false);
        takes("1LC 0RB  1RA 0RZ  1RA 0LA", 3, 3, 0, true);
        takes("1RB ---  --- ---", 3, 3, 0, false);
        takes("1RZ ---  --- ---", 3, 3, 0, false);
        takes("1RA ---  --- ---", 3, 1, 0, true);
    }

    private void doubt() {
        Haltingale x = Tables.of("1RZ ---  --- ---", "1RA ---  --- ---", "1RB 1LB  1LA 1RZ",
                "1RB 1LA  1LA 1RB  0RD 0LA  0RZ 0LA", "1RB 1LZ  1LC 1RB  1LA 1LC", "--- ---  --- ---");
        for (int i = 0; i < 6; i++) {
            x.decide(i);
        }
        checks.refuses(x, ARGUMENT, "doubt(4)", () -> x.doubt(4));
        checks.refuses(x, ARGUMENT, "doubt(-1)", () -> x.doubt(-1));
        checks.is("doubt(0)", 2, () -> x.doubt(0));
        checks.is("many(9)", 2, () -> x.many(9));
        checks.is("the machine 0 is OPEN", -1, () -> x.ofMachine(0, 2));
        checks.is("the machine 1 is DECIDED", 1, () -> x.ofMachine(1, 2));
        checks.is("the machine 2 is OPEN", -1, () -> x.ofMachine(2, 2));
        checks.is("doubt(0) again", 0, () -> x.doubt(0));
        checks.is("many(9)", 2, () -> x.many(9));
        checks.is("doubt(1)", 1, () -> x.doubt(1));
        checks.is("doubt(2)", 1, () -> x.doubt(2));
        checks.is("doubt(3)", 1, () -> x.doubt(3));
        checks.is("many(1)", 6, () -> x.many(1));
        checks.is("many(9)", 5, () -> x.many(9));
        checks.is("it can be decided again", 0, () -> x.decide(2));
    }

    private void decided(String table, int kind, int a, int b) {
        Haltingale x = Tables.of(table);
        checks.is("decide of " + table, kind, () -> x.decide(0));
        checks.is("its KIND", kind, () -> x.ofMachine(0, 2));
        checks.is("its a", a, () -> x.ofMachine(0, 3));
        checks.is("its b", b, () -> x.ofMachine(0, 4));
        if (kind == -1) {
            checks.is("decide again", -1, () -> x.decide(0));
        } else {
            checks.refuses(x, STATE, "decide again", () -> x.decide(0));
        }
    }

    private void decide() {
        decided("1RB 1LB  1LA 1RZ", 0, 6, 0);
        decided("1RB 1LB  1LA 0LC  1RZ 1LD  1RD 0RA", 0, 107, 0);
        decided("1RA ---  --- ---", 1, 0, 1);
        decided("1RB 1RB  1LA 1LA", 1, 2, 2);
        decided("1RB 1LA  1LA 1RB  0RD 0LA  0RZ 0LA", 2, 2, 0);
        decided("0LB 0RA  0RC 1LA  1RA 1LD  1RC 1RZ", 2, 5, 0);
        decided("1RB 1LZ  1LC 1RB  1LA 1LC", 3, 2, 0);
        decided("1RC 0LB  1LA 0LZ  1LA 0RA", 3, 3, 0);
        decided("1RB 1LB  --- 0LC  0LB 1LA", -1, -1, -1);
        decided("--- ---  --- ---", -1, -1, -1);
        Haltingale x = new Haltingale();
        checks.refuses(x, INDEX, "decide(0)", () -> x.decide(0));
        x.machine(2);
        checks.refuses(x, INDEX, "decide(1)", () -> x.decide(1));
        checks.refuses(x, INDEX, "decide(-1)", () -> x.decide(-1));
    }

    private void decideByTheFirst() {
        // CYCLE goes ahead of BACK and GRAM, that could be taken, too.
        decided("0RB ---  0LA ---", 1, 0, 2);
        decided("1LB 0LZ  0LC 1RA  1RB 0RA", 1, 0, 5);
        // A CYCLE with a sum of 30 is within the bound; with 31 or 40 it is beyond, and BACK is next.
        decided("1LC 0LC  1LD 0RC  1RB 0LD  0RD 1LA", 1, 29, 1);
        decided("1LC 0RC  0LC 1RD  0LD 1LD  1RB 1LC", 2, 1, 0);
        decided("1LB 1LA  1LC 1RD  1RB 1RC  1LA 0RB", 2, 1, 0);
        // BACK goes ahead of GRAM.
        decided("1RC 1LA  0LD 1RZ  1LD 1RC  0RB 1LA", 2, 3, 0);
    }
}
