/** What section 1 of the document says of machines at its edges, and of the calls of an object, sentence by sentence. */
public final class TermsTest {
    private final Checks checks = new Checks("TermsTest");

    public static void main(String[] args) {
        TermsTest test = new TermsTest();
        test.beginsOnAnEmptyTape();
        test.beginsAnewEachTime();
        test.tapeWithoutEnd();
        test.stepByEachSymbol();
        test.hangsWithoutAStep();
        test.stopsWithItsLastStep();
        test.visitedPlaces();
        test.onesAreWrittenAndErased();
        test.runsOfWhatWasVisited();
        test.wholeEighths();
        test.fiveHundredAndTwelveCalls();
        test.checks.end();
    }

    /** Checks all that at() tells: STEPS, STATE, PLACE, ONES, RUNS, the least and the greatest PLACE, eighths. */
    private void stands(Haltingale x, int machine, int steps, int... due) {
        for (int what = 0; what < due.length; what++) {
            int asked = what;
            checks.is("at(" + machine + ", " + steps + ", " + what + ")", due[what], () -> x.at(machine, steps, asked));
        }
    }

    /** Checks the SYMBOLS from a PLACE on. */
    private void tape(Haltingale x, int machine, int steps, int from, String due) {
        for (int i = 0; i < due.length(); i++) {
            int place = from + i;
            checks.is("symbol(" + machine + ", " + steps + ", " + place + ")", due.charAt(i) - '0',
                    () -> x.symbol(machine, steps, place));
        }
    }

    /** "A machine begins in the STATE 0 at the PLACE 0 of a tape that has a 0 at each PLACE". */
    private void beginsOnAnEmptyTape() {
        Haltingale x = Tables.of("1RB 1LB  1LA 1RZ", "--- ---  --- ---", "1RZ ---  --- ---");
        for (int machine = 0; machine <= 2; machine++) {
            stands(x, machine, 0, 0, 0, 0, 0, 1, 0, 0, 0);
            for (int place : new int[] {-501, -500, -1, 0, 1, 500, 501}) {
                tape(x, machine, 0, place, "0");
            }
        }
    }

    /** The tape of one walk is no part of the next one, of the same machine or of another one. */
    private void beginsAnewEachTime() {
        Haltingale x = Tables.of("1RA ---  --- ---", "1LA ---  --- ---", "0RB ---  0LA ---");
        stands(x, 0, 500, 500, 0, 500, 500, 2, 0, 500, 7);
        stands(x, 1, 500, 500, 0, -500, 500, 2, -500, 0, 7);
        stands(x, 0, 3, 3, 0, 3, 3, 2, 0, 3, 6);
        stands(x, 2, 3, 3, 1, 1, 0, 1, 0, 1, 0);
        tape(x, 0, 2, -1, "01100");
        stands(x, 1, 1, 1, 0, -1, 1, 2, -1, 0, 4);
        tape(x, 1, 1, -2, "00100");
    }

    /** "in both directions without end": the 500th STEP leads to the PLACE 500, or -500, and there is a 0. */
    private void tapeWithoutEnd() {
        Haltingale x = Tables.of("1RA ---  --- ---", "1LA ---  --- ---");
        stands(x, 0, 499, 499, 0, 499, 499, 2, 0, 499, 7);
        stands(x, 0, 500, 500, 0, 500, 500, 2, 0, 500, 7);
        tape(x, 0, 500, 497, "11100");
        tape(x, 0, 500, -501, "00");
        tape(x, 0, 500, -1, "01");
        stands(x, 1, 499, 499, 0, -499, 499, 2, -499, 0, 7);
        stands(x, 1, 500, 500, 0, -500, 500, 2, -500, 0, 7);
        tape(x, 1, 500, -501, "00111");
        tape(x, 1, 500, 500, "00");
        tape(x, 1, 500, 0, "10");
    }

    /** "by the CELL of its STATE and the SYMBOL at its PLACE it WRITES there, MOVES by one PLACE": all four of a kind. */
    private void stepByEachSymbol() {
        Haltingale x = Tables.of("1RB 0RZ  0LA ---", "1LB 0LZ  0RA ---", "1LB 1LZ  0RA ---", "0RB 1RZ  1LC ---  1RC 1LA");
        stands(x, 0, 1, 1, 1, 1, 1);
        stands(x, 0, 2, 2, 0, 0, 1);
        stands(x, 0, 3, 3, 2, 1, 0);
        stands(x, 1, 3, 3, 2, -1, 0);
        stands(x, 2, 3, 3, 2, -1, 1);
        stands(x, 3, 2, 2, 2, 0, 1);
        stands(x, 3, 3, 3, 2, 1, 2);
        stands(x, 3, 4, 4, 0, 0, 2);
        stands(x, 3, 5, 5, 3, 1, 2);
    }

    /** "It HANGS, as that CELL is EMPTY (no STEP is done)": at once, at a 0, and at a 1. */
    private void hangsWithoutAStep() {
        Haltingale x = Tables.of("--- 1RZ  1RZ 1RZ", "1RB 1RZ  --- 1RZ", "1RB ---  1LA 1RZ", "1LC 1RZ  1RZ 1RZ  --- 1RZ");
        for (int steps : new int[] {1, 2, 3, 499, 500}) {
            stands(x, 0, steps, 0, 0, 0, 0, 1, 0, 0, 0);
            stands(x, 1, steps, 1, 1, 1, 1, 2, 0, 1, 4);
            stands(x, 3, steps, 1, 2, -1, 1, 2, -1, 0, 4);
        }
        stands(x, 2, 1, 1, 1, 1, 1, 2, 0, 1, 4);
        for (int steps : new int[] {2, 3, 500}) {
            stands(x, 2, steps, 2, 0, 0, 2, 1, 0, 1, 8);
        }
    }

    /** "With a NEXT of STOP this is its last STEP; then it has STOPPED": with 2, 3 and 4 STATES, behind 1 STEP and 2. */
    private void stopsWithItsLastStep() {
        Haltingale x = Tables.of("1RZ 1RA  1RA 1RA", "0LZ 1RA  1RA 1RA  1RA 1RA", "1LZ 1RA  1RA 1RA  1RA 1RA  1RA 1RA",
                "1RC 1RA  1RA 1RA  0RZ 1RA", "1LD 1RA  1RA 1RA  1RA 1RA  1LZ 1RA");
        for (int steps : new int[] {1, 2, 500}) {
            stands(x, 0, steps, 1, 2, 1, 1, 2, 0, 1, 4);
            stands(x, 1, steps, 1, 3, -1, 0, 1, -1, 0, 0);
            stands(x, 2, steps, 1, 4, -1, 1, 2, -1, 0, 4);
        }
        stands(x, 3, 1, 1, 2, 1, 1, 2, 0, 1, 4);
        stands(x, 4, 1, 1, 3, -1, 1, 2, -1, 0, 4);
        for (int steps : new int[] {2, 3, 500}) {
            stands(x, 3, steps, 2, 3, 2, 1, 2, 0, 2, 2);
            stands(x, 4, steps, 2, 4, -2, 2, 2, -2, 0, 5);
        }
    }

    /** "all from the least to the greatest one at which it was by then (0, and where it is, among them)". */
    private void visitedPlaces() {
        Haltingale x = Tables.of("0RB 1LC  0LC 0LB  0LD ---  0RA ---");
        int[][] due = {{0, 0, 0}, {1, 0, 1}, {0, 0, 1}, {-1, -1, 1}, {0, -1, 1}, {1, -1, 1}};
        for (int steps = 0; steps < due.length; steps++) {
            int asked = steps;
            int[] places = due[steps];
            checks.is("PLACE behind " + steps, places[0], () -> x.at(0, asked, 2));
            checks.is("the least one behind " + steps, places[1], () -> x.at(0, asked, 5));
            checks.is("the greatest one behind " + steps, places[2], () -> x.at(0, asked, 6));
        }
    }

    /** "Its ONES are how many PLACES have a 1": a 1 on a 1 is no further one, and a 0 on it erases it. */
    private void onesAreWrittenAndErased() {
        Haltingale x = Tables.of("1RB 1RC  0LA ---  1LD ---  --- 0RD");
        int[] due = {0, 1, 1, 1, 2, 1, 0};
        for (int steps = 0; steps < due.length; steps++) {
            int asked = steps;
            checks.is("ONES behind " + steps, due[steps], () -> x.at(0, asked, 3));
        }
        checks.is("it HANGS then", 6, () -> x.at(0, 500, 0));
        tape(x, 0, 4, -1, "0110");
        tape(x, 0, 5, -1, "0010");
        tape(x, 0, 6, -1, "0000");
    }

    /** "RUNS: into how many parts the PLACES that it VISITED fall": one PLACE, all alike, and each another one. */
    private void runsOfWhatWasVisited() {
        Haltingale x = Tables.of("1RB ---  0RA ---", "0RA ---  --- ---", "1RA ---  --- ---", "1RB 1RZ  1LA ---");
        for (int steps = 0; steps <= 8; steps++) {
            int asked = steps;
            // 1 0 1 0 .. and the 0 at which it is, which is of the same part as a 0 just written.
            checks.is("RUNS of 1 0 1 0 ..", steps == 0 ? 1 : steps % 2 == 1 ? steps + 1 : steps, () -> x.at(0, asked, 4));
            checks.is("RUNS of 0 0 0 0 ..", 1, () -> x.at(1, asked, 4));
            checks.is("RUNS of 1 1 1 1 .. 0", steps == 0 ? 1 : 2, () -> x.at(2, asked, 4));
        }
        checks.is("RUNS of 1 0 1 0 .., the most", 500, () -> x.at(0, 500, 4));
        checks.is("RUNS of 1 1", 1, () -> x.at(3, 2, 4));
        checks.is("its ONES", 2, () -> x.at(3, 2, 3));
    }

    /** "8 times ONES, divided by these, rounded down": n ONES of n and 1 PLACES. */
    private void wholeEighths() {
        Haltingale x = Tables.of("1RA ---  --- ---", "0RB ---  1RC ---  0RD ---  0RA ---");
        int[] due = {0, 4, 5, 6, 6, 6, 6, 7, 7};
        for (int steps = 0; steps < due.length; steps++) {
            int asked = steps;
            checks.is("eighths behind " + steps, due[steps], () -> x.at(0, asked, 7));
        }
        // One of every four PLACES: 1 of 4, 1 of 9 and 2 of 10.
        checks.is("eighths of 1 of 4", 2, () -> x.at(1, 3, 7));
        checks.is("eighths of 1 of 5", 1, () -> x.at(1, 4, 7));
        checks.is("eighths of 2 of 7", 2, () -> x.at(1, 6, 7));
        checks.is("eighths of 2 of 9", 1, () -> x.at(1, 8, 7));
        checks.is("eighths of 125 of 501", 1, () -> x.at(1, 500, 7));
    }

    /** "An object is used for at most 512 calls": the last of these answers as it should, too. */
    private void fiveHundredAndTwelveCalls() {
        Haltingale x = new Haltingale();
        for (int i = 0; i < 12; i++) {
            x.machine(4);
        }
        for (int i = 12; i < 511; i++) {
            x.prove(i % 12, 3, 3, 0);
        }
        checks.is("the call 512", 511 - 12, () -> x.many(7));

        Haltingale y = Tables.of("1RB 1LB  1LA 0LC  1RZ 1LD  1RD 0RA");
        for (int i = 9; i < 511; i++) {
            int write = 1 - i % 2;
            checks.is("amend as the call " + (i + 1), false, () -> y.amend(0, 0, 0, write, 1, 1));
        }
        checks.is("decide as the call 512", 0, () -> y.decide(0));
    }
}
