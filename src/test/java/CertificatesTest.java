/**
 * Section 2 of the document, condition by condition: what is taken, and what just one broken condition keeps
 * from being taken.
 */
public final class CertificatesTest {
    private static final int STOP = 0;
    private static final int CYCLE = 1;
    private static final int BACK = 2;
    private static final int GRAM = 3;

    private final Checks checks = new Checks("CertificatesTest");

    public static void main(String[] args) {
        CertificatesTest test = new CertificatesTest();
        test.stopWithTheLastStep();
        test.cycleWithoutHanging();
        test.cycleWithoutStopping();
        test.cycleInTheSameState();
        test.cycleWithTheWholeTape();
        test.cycleFromTheLeastPlaceOn();
        test.cycleWithoutEnd();
        test.cycleWithWhatIsLeftBehind();
        test.cycleAtItsLimits();
        test.backFromTheEnds();
        test.backByWhatIsKnown();
        test.backWithoutHangingOrStopping();
        test.backAtItsLimits();
        test.backWithManyRows();
        test.gramFromAllZero();
        test.gramByItsSets();
        test.gramUntilNothingNewComes();
        test.gramAtItsLimits();
        test.nothingIsLeftOfAnotherOne();
        test.checks.end();
    }

    /** Checks it of the machine, and with left and right exchanged, which is alike for all KINDS. */
    private void takes(String table, int kind, int a, int b, boolean due) {
        String turned = table.replace('R', '<').replace('L', 'R').replace('<', 'L');
        for (String each : new String[] {table, turned}) {
            checks.is(each + " taken by " + kind + ", " + a + ", " + b, due, () -> Tables.of(each).prove(0, kind, a, b));
        }
    }

    /** "the machine STOPS with the STEP a (1 to 500) as its last one": neither a STEP earlier nor later. */
    private void stopWithTheLastStep() {
        String beaver = "1RB 1LB  1LA 1RZ";
        for (int a : new int[] {1, 2, 3, 4, 5, 6, 7, 8, 499, 500}) {
            takes(beaver, STOP, a, 0, a == 6);
        }
        takes("1RZ ---  --- ---", STOP, 1, 0, true);
        takes("1RZ ---  --- ---", STOP, 2, 0, false);
        String longest = "1RB 1LB  1LA 0LC  1RZ 1LD  1RD 0RA";
        takes(longest, STOP, 106, 0, false);
        takes(longest, STOP, 107, 0, true);
        takes(longest, STOP, 108, 0, false);
        // HANGING is not STOPPING, with as many STEPS, one more or the most.
        takes("1RB ---  --- ---", STOP, 1, 0, false);
        takes("1RB ---  --- ---", STOP, 2, 0, false);
        takes("1RB ---  --- ---", STOP, 500, 0, false);
        takes("--- ---  --- ---", STOP, 1, 0, false);
        takes("1RA ---  --- ---", STOP, 1, 0, false);
        takes("1RA ---  --- ---", STOP, 500, 0, false);
    }

    /** "it does a and b STEPS together without HANGING": behind 1 STEP it HANGS, and is the same from then on. */
    private void cycleWithoutHanging() {
        String hangs = "0RB ---  --- ---";
        takes(hangs, CYCLE, 0, 1, false);
        takes(hangs, CYCLE, 0, 2, false);
        takes(hangs, CYCLE, 1, 1, false);
        takes(hangs, CYCLE, 2, 1, false);
        takes(hangs, CYCLE, 150, 150, false);
        takes("--- ---  --- ---", CYCLE, 0, 1, false);
        takes("--- ---  --- ---", CYCLE, 150, 1, false);
    }

    /** "or STOPPING": with its STEP 2, and is the same from then on. */
    private void cycleWithoutStopping() {
        String stops = "0RB ---  0LZ ---";
        takes(stops, CYCLE, 0, 2, false);
        takes(stops, CYCLE, 1, 1, false);
        takes(stops, CYCLE, 1, 2, false);
        takes(stops, CYCLE, 2, 1, false);
        takes(stops, CYCLE, 3, 1, false);
        takes(stops, CYCLE, 150, 150, false);
        takes("0RZ ---  --- ---", CYCLE, 0, 1, false);
        takes("0RZ ---  --- ---", CYCLE, 1, 1, false);
    }

    /** "behind a STEPS and behind a and b STEPS it is in the same STATE", with a tape that is all 0. */
    private void cycleInTheSameState() {
        String late = "0RB ---  0LC ---  0RB ---";
        takes(late, CYCLE, 0, 2, false);
        takes(late, CYCLE, 1, 2, true);
        String further = "1RB ---  1RA ---";
        takes(further, CYCLE, 0, 1, false);
        takes(further, CYCLE, 0, 2, true);
        takes(further, CYCLE, 0, 3, false);
    }

    /** "if d is 0, the whole tape is the same then": where it is, behind it, and ahead of it. */
    private void cycleWithTheWholeTape() {
        takes("0RB ---  0LA ---", CYCLE, 0, 2, true);
        takes("0RB ---  0LA ---", CYCLE, 1, 2, true);
        takes("1RB 1RB  0LA ---", CYCLE, 0, 2, false);
        takes("1RB 1RB  0LA ---", CYCLE, 2, 2, true);
        takes("0LB ---  1RA 1RA", CYCLE, 0, 2, false);
        takes("0LB ---  1RA 1RA", CYCLE, 2, 2, true);
        takes("1RB 1RB  1LA 1LA", CYCLE, 0, 2, false);
        takes("1RB 1RB  1LA 1LA", CYCLE, 1, 2, false);
        takes("1RB 1RB  1LA 1LA", CYCLE, 2, 2, true);
    }

    /** "m being the least of its PLACES behind a STEPS, behind a and 1 and so on up to a and b". */
    private void cycleFromTheLeastPlaceOn() {
        // Only at the PLACE behind a STEPS itself the tape is another one.
        takes("0LB ---  1RA 1RB", CYCLE, 3, 1, false);
        takes("0RB 0LA  1LA 1RA", CYCLE, 3, 2, false);
        // Only at a PLACE in between, to the left of those behind a and behind a and b STEPS.
        takes("1RB ---  1LB 0RB", CYCLE, 1, 3, false);
        takes("0LB 1LB  1RA 0RB", CYCLE, 0, 5, false);
        // It turns round on each way, and the tape is what it was.
        takes("1RB 1RB  0LC ---  --- 1RA", CYCLE, 0, 3, true);
    }

    /** "the tape from m and d on (to the right, without end)": far ahead of where it was there is a 1. */
    private void cycleWithoutEnd() {
        takes("1LB 1RA  1RB 1LA", CYCLE, 7, 1, false);
        takes("1LB ---  1RB 1RB", CYCLE, 1, 2, false);
        takes("1LB ---  1RB 1RB", CYCLE, 3, 1, true);
        takes("1RB 1LA  0LA 1RA", CYCLE, 7, 1, false);
    }

    /** "is then what it was from m on, PLACE by PLACE": what is on the other side of m is free. */
    private void cycleWithWhatIsLeftBehind() {
        takes("1RB ---  0RB ---", CYCLE, 0, 1, false);
        takes("1RB ---  0RB ---", CYCLE, 1, 1, true);
        takes("0RB ---  1RB ---", CYCLE, 1, 1, true);
        takes("1RB 0RA  0RB 0RA", CYCLE, 1, 1, true);
        // d is 1, 2 and 3.
        takes("1RA ---  --- ---", CYCLE, 0, 1, true);
        takes("1RA ---  --- ---", CYCLE, 0, 2, true);
        takes("1RB ---  1RC ---  0RA ---", CYCLE, 0, 3, true);
        takes("1RB ---  1RC ---  0RA ---", CYCLE, 1, 3, true);
        takes("1RB ---  1RC ---  0RA ---", CYCLE, 1, 2, false);
    }

    /** "CYCLE (a 0 to 150, b 1 to 150)". */
    private void cycleAtItsLimits() {
        for (String table : new String[] {"1RA ---  --- ---", "0RA ---  --- ---"}) {
            takes(table, CYCLE, 0, 1, true);
            takes(table, CYCLE, 150, 1, true);
            takes(table, CYCLE, 0, 150, true);
            takes(table, CYCLE, 150, 150, true);
        }
        takes("0RB ---  0LA ---", CYCLE, 150, 150, true);
        takes("0RB ---  0LA ---", CYCLE, 150, 149, false);
        takes("0RB ---  0LA ---", CYCLE, 149, 150, true);
        String slow = "1LB 1LA  1LC 1RD  1RB 1RC  1LA 0RB";
        takes(slow, CYCLE, 25, 14, false);
        takes(slow, CYCLE, 26, 13, false);
        takes(slow, CYCLE, 26, 14, true);
        takes(slow, CYCLE, 26, 28, true);
        takes(slow, CYCLE, 150, 14, true);
        takes(slow, CYCLE, 150, 140, true);
        takes(slow, CYCLE, 150, 150, false);
    }

    /** "one for each CELL that is EMPTY or has a NEXT of STOP: its STATE, the PLACE 0, its SYMBOL there". */
    private void backFromTheEnds() {
        // No end at all: there is no ROW at any depth.
        takes("0RB 1LA  1LA 1RB", BACK, 1, 0, true);
        takes("0RB 1LA  1LA 1RB", BACK, 6, 0, true);
        // An end in a STATE that is no CELL's NEXT, and in one that is.
        takes("0RA 1LA  --- ---", BACK, 1, 0, true);
        takes("0RA 1LA  0RZ 0LZ", BACK, 1, 0, true);
        takes("0RA ---  --- ---", BACK, 1, 0, false);
        takes("0LA 0RZ  --- ---", BACK, 1, 0, false);
        // The SYMBOL at the end is known: a CELL that WRITES the other one there does not lead to it.
        takes("0RB ---  0LA ---", BACK, 1, 0, false);
        takes("0RB 0RZ  0LA 0LZ", BACK, 1, 0, false);
        takes("0RB ---  0LA ---", BACK, 2, 0, true);
        takes("1LB ---  1RA ---", BACK, 2, 0, false);
    }

    /** "if the SYMBOL there is known, and is not what the CELL WRITES, there is none; otherwise .. all else as it was". */
    private void backByWhatIsKnown() {
        takes("0RB 1RB  0LA ---", BACK, 2, 0, true);
        takes("1RB ---  1LA 1LA", BACK, 2, 0, false);
        takes("0LB 0LZ  1LB 0RA", BACK, 2, 0, false);
        takes("1LB 1LB  1RC ---  --- 0RA", BACK, 2, 0, true);
        takes("0LA 0RB  1LA ---", BACK, 3, 0, true);
        takes("1RB 0RZ  0LC 1RB  0RA 0RA", BACK, 2, 0, true);
        takes("0LA 0RA  --- 1RC  1LA 1LB", BACK, 2, 0, true);
        // A SYMBOL that was known is another one a STEP ahead.
        takes("0LA 1LA  0LC 1LC  1RB ---", BACK, 4, 0, true);
        takes("1RB ---  0LC ---  0RB 1RA", BACK, 6, 0, false);
        takes("1RB ---  1LC ---  --- 0LA", BACK, 6, 0, false);
        // At PLACES that were never met nothing is known, up to the sixth one.
        takes("1RA ---  --- ---", BACK, 6, 0, false);
        takes("0RA ---  --- ---", BACK, 6, 0, false);
    }

    /** "and the machine does a STEPS without HANGING or STOPPING". */
    private void backWithoutHangingOrStopping() {
        // No ROW at the depth 1 or 2, but it HANGS ahead of, or STOPS with, the STEP a, or one ahead of that.
        takes("--- 1LB  1RB 1RB", BACK, 1, 0, false);
        takes("1RZ 1LB  1RB 1RB", BACK, 1, 0, false);
        takes("1RZ 1LB  1RB 1RB", BACK, 2, 0, false);
        takes("0RB 0RB  --- ---", BACK, 2, 0, false);
        takes("0RB 0RB  0RZ 0LZ", BACK, 2, 0, false);
        takes("0RB 0RB  0RZ 0LZ", BACK, 3, 0, false);
        takes("0RB 0RB  1LA 0LZ", BACK, 4, 0, false);
        takes("1RB 1LB  1LA 1RZ", BACK, 6, 0, false);
        takes("--- ---  --- ---", BACK, 1, 0, false);
        takes("--- ---  --- ---", BACK, 6, 0, false);
    }

    /** "BACK (a 1 to 6 ..)": the ROWS end at the depth a or ahead of it, not behind it. */
    private void backAtItsLimits() {
        String two = "1RB 1LA  1LA 1RB  0RD 0LA  0RZ 0LA";
        String six = "1LA 1RB  1RC 0RC  0RZ 1LA";
        String seven = "0LB 0RC  1LB 1RA  1RZ 0LA";
        for (int a = 1; a <= 6; a++) {
            takes(two, BACK, a, 0, a >= 2);
            takes(six, BACK, a, 0, a >= 6);
            takes(seven, BACK, a, 0, false);
        }
    }

    /** "there are at most 24 at each depth": as many as 8 if they end at all; 25 and 26 ahead of the depth 6. */
    private void backWithManyRows() {
        String eight = "0RB 1LD  0LA 0LA  0LA 0LA  --- ---";
        String more = "1LA 1LD  0LB 0LA  0LB 1RB  1LZ 0LD";
        String most = "1LA 0LC  --- 1LB  0LB 0LC  0LD 0LA";
        for (int a = 1; a <= 6; a++) {
            takes(eight, BACK, a, 0, a >= 3);
            takes(more, BACK, a, 0, false);
            takes(most, BACK, a, 0, false);
        }
        checks.is("backIn of " + more, -1, () -> Tables.of(more).backIn(0));
        checks.is("backIn of " + most, -1, () -> Tables.of(most).backIn(0));
    }

    /** "At first there are the WINDOW of the STATE 0 with all 0, and the row of all 0 in LEFTS and in RIGHTS". */
    private void gramFromAllZero() {
        for (int a = 1; a <= 3; a++) {
            // The first CELL is the only one that is met, or an end, or leads to one.
            takes("1RA ---  --- ---", GRAM, a, 0, true);
            takes("--- ---  --- ---", GRAM, a, 0, false);
            takes("1RZ ---  --- ---", GRAM, a, 0, false);
            takes("1RB ---  --- ---", GRAM, a, 0, false);
            takes("0RB ---  0RZ ---", GRAM, a, 0, false);
            // At the CELL of the SYMBOL 1 there is never a WINDOW.
            takes("0RB 1RZ  0LA ---", GRAM, a, 0, true);
        }
    }

    /** What comes from a WINDOW: by LEFTS and RIGHTS, by what is WRITTEN, and by the SYMBOLS of its rows. */
    private void gramByItsSets() {
        // For each x, but only if the row with it is in RIGHTS.
        takes("0LA 0RB  --- 0RA", GRAM, 1, 0, true);
        takes("1RA 1LZ  1LA 0LA", GRAM, 1, 0, true);
        takes("1RA 1RB  0RB ---", GRAM, 1, 0, true);
        takes("0RC ---  1LB ---  0RB ---", GRAM, 1, 0, false);
        takes("1LC ---  1RB ---  0LB 0RZ", GRAM, 1, 0, false);
        takes("1RB 1LB  1LA 0RC  --- 1RB", GRAM, 2, 0, false);
        // What was to the left is in LEFTS, not what is there then.
        takes("1LB 0RB  1RA ---", GRAM, 3, 0, false);
        takes("1RB 1RA  1LA ---", GRAM, 1, 0, true);
        takes("1LD 1RZ  1RD 1RB  1RC 1RC  1RD 0RA", GRAM, 1, 0, true);
        // To the left WRITE is the nearest one, and the last one is left out.
        takes("1RB ---  0LB ---", GRAM, 2, 0, false);
        takes("1LB ---  1RA 0RB", GRAM, 2, 0, false);
        takes("1RB ---  0LB ---", GRAM, 1, 0, false);
        takes("1LB 0RB  1RB ---", GRAM, 1, 0, false);
        // The SYMBOL is the one that was the nearest to the right, not the farthest one.
        takes("0LB ---  1RA ---", GRAM, 1, 0, false);
        takes("1RB 1LZ  1LB 1RA", GRAM, 2, 0, false);
        takes("1LB 0RA  1RB ---", GRAM, 2, 0, false);
    }

    /** "(So on, until nothing new comes.)": a row that comes late lets a WINDOW of earlier lead to an end. */
    private void gramUntilNothingNewComes() {
        takes("0LC ---  1RB ---  0LB ---", GRAM, 1, 0, false);
        takes("0RB ---  0RC 0RC  1LC ---", GRAM, 1, 0, false);
        takes("0RB 1LC  1RC ---  0LA 1LB", GRAM, 1, 0, false);
    }

    /** "GRAM (a 1 to 3 ..)": by rows of 1, 2 and 3 SYMBOLS, and one that would take rows of 4. */
    private void gramAtItsLimits() {
        String one = "0LB 0RA  1RA 1LB  --- 0RC";
        String two = "1RB 1LZ  1LC 1RB  1LA 1LC";
        String three = "1RC 0LB  1LA 0LZ  1LA 0RA";
        String four = "1RB ---  1LC 0RB  1LA 0LB";
        for (int a = 1; a <= 3; a++) {
            takes(one, GRAM, a, 0, true);
            takes(two, GRAM, a, 0, a >= 2);
            takes(three, GRAM, a, 0, a >= 3);
            takes(four, GRAM, a, 0, false);
        }
    }

    private void after(String first, String second, int backs, int grams, int cycles) {
        Haltingale x = Tables.of(first, second);
        x.at(0, 500, 0);
        x.cycleIn(0, 40);
        checks.is(second + ": cycleIn, after " + first, cycles, () -> x.cycleIn(1, 40));
        x.backIn(0);
        checks.is(second + ": backIn, after " + first, backs, () -> x.backIn(1));
        x.gramIn(0);
        checks.is(second + ": gramIn, after " + first, grams, () -> x.gramIn(1));
    }

    /** A checker that trusts nothing: what was looked for at one machine is no help for the next one. */
    private void nothingIsLeftOfAnotherOne() {
        after("1LA 1RZ  1LA 1RC  1LB 1LB", "1LA 0RA  0RA 1RB", 1, 1, 1);
        after("--- 0LA  0LA ---", "1LA 0RB  0LB 1RA", 1, 1, 1);
        after("1RA 1LZ  1LA ---", "0LA ---  --- 1RB", -1, 1, 1);
        after("1LA 0RB  0LA 1RB", "0RA ---  --- ---", -1, 1, 1);
        after("0RA 0RA  1RB 1RA", "--- 1RZ  --- ---", -1, -1, -1);
        after("0RB 1LD  0LA 0LA  0LA 0LA  --- ---", "1RB 1LB  1LA 1RZ", -1, -1, -1);
    }
}
