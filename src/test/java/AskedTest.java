/** Promises 10 to 20: cell, ofMachine, at, symbol, lean, meets, likeness, champion, tagged, many, meanStop. */
public final class AskedTest {
    /** The busy beaver of 2 STATES: 6 STEPS, and 1 1 1 1 at the PLACES -2 to 1. */
    private static final String BEAVER = "1RB 1LB  1LA 1RZ";

    private final Checks checks = new Checks("AskedTest");

    public static void main(String[] args) {
        AskedTest test = new AskedTest();
        test.cell();
        test.ofMachine();
        test.atStepByStep();
        test.atTheEnds();
        test.symbol();
        test.lean();
        test.meets();
        test.likeness();
        test.champion();
        test.tagged();
        test.taggedByCut();
        test.taggedSoOften();
        test.taggedTooLong();
        test.many();
        test.meanStop();
        test.checks.end();
    }

    private void cell() {
        Haltingale x = Tables.of("1RB 0LZ  --- ---");
        int[] due = {1, 1, 1, 0, 0, 2, -1, -1, -1, -1, -1, -1};
        for (int i = 0; i < due.length; i++) {
            int asked = i;
            checks.is("cell " + i, due[i], () -> x.cell(0, asked / 6, asked / 3 % 2, asked % 3));
        }
        // The greatest NEXT, which is STOP, with 3 and 4 STATES, and the greatest STATE.
        Haltingale y = Tables.of("0LA 0LZ  0LC 1RZ  --- ---", "0LA 0LZ  0LD 1RZ  --- ---  --- ---");
        for (int states = 3; states <= 4; states++) {
            int machine = states - 3;
            checks.is("STATE 0 is a NEXT", 0, () -> y.cell(machine, 0, 0, 2));
            checks.is("STOP is a NEXT", states, () -> y.cell(machine, 0, 1, 2));
            checks.is("the last STATE is a NEXT", states - 1, () -> y.cell(machine, 1, 0, 2));
            checks.is("a MOVE to the left", 0, () -> y.cell(machine, 1, 0, 1));
            checks.is("a MOVE to the right", 1, () -> y.cell(machine, 1, 1, 1));
        }
    }

    private void ofMachine() {
        all("new", Tables.of("--- ---  --- ---  --- ---"), 3, 6, -1, -1, -1, 9, -1, -1, -1);
        all("HANGS", Tables.of("1RB ---  --- ---"), 2, 3, -1, -1, -1, 9, -1, -1, -1);
        all("STOPS", Tables.of(BEAVER), 2, 0, -1, -1, -1, 0, 4, 6, 0);
        all("STOPS to the left", Tables.of("1LB ---  1LZ ---"), 2, 2, -1, -1, -1, 0, 2, 2, 2);
        all("STOPS to the right", Tables.of("0RB ---  0RZ ---"), 2, 2, -1, -1, -1, 0, 0, 2, 2);
        all("107 STEPS", Tables.of("1RB 1LB  1LA 0LC  1RZ 1LD  1RD 0RA"), 4, 0, -1, -1, -1, 0, 13, 107, 9);
        all("goes on", Tables.of("1RA ---  --- ---"), 2, 3, -1, -1, -1, 0, -1, -1, -1);
        all("HANGS behind 106 STEPS", Tables.of("1RB 1LB  1LA 0LC  --- 1LD  1RD 0RA"), 4, 1, -1, -1, -1, 17, -1, -1, -1);
        all("STOPS at once", Tables.of("0LZ ---  --- ---"), 2, 3, -1, -1, -1, 0, 0, 1, 1);
        Haltingale x = Tables.of(BEAVER, "1RA ---  --- ---");
        x.prove(0, 0, 6, 0);
        all("DECIDED by STOP", x, 2, 0, 0, 6, 0, 0, 4, 6, 0);
        x.prove(1, 1, 3, 9);
        checks.is("the KIND of CYCLE", 1, () -> x.ofMachine(1, 2));
        checks.is("the a of CYCLE", 3, () -> x.ofMachine(1, 3));
        checks.is("the b of CYCLE", 9, () -> x.ofMachine(1, 4));
    }

    private void all(String name, Haltingale x, int... due) {
        for (int what = 0; what <= 8; what++) {
            int asked = what;
            checks.is(name + ": ofMachine(0, " + what + ")", due[what], () -> x.ofMachine(0, asked));
        }
    }

    private void stands(Haltingale x, int machine, int steps, int... due) {
        for (int what = 0; what <= 7; what++) {
            int asked = what;
            checks.is("at(" + machine + ", " + steps + ", " + what + ")", due[what], () -> x.at(machine, steps, asked));
        }
    }

    private void atStepByStep() {
        Haltingale x = Tables.of(BEAVER);
        stands(x, 0, 0, 0, 0, 0, 0, 1, 0, 0, 0);
        stands(x, 0, 1, 1, 1, 1, 1, 2, 0, 1, 4);
        stands(x, 0, 2, 2, 0, 0, 2, 1, 0, 1, 8);
        stands(x, 0, 3, 3, 1, -1, 2, 2, -1, 1, 5);
        stands(x, 0, 4, 4, 0, -2, 3, 2, -2, 1, 6);
        stands(x, 0, 5, 5, 1, -1, 4, 1, -2, 1, 8);
        stands(x, 0, 6, 6, 2, 0, 4, 1, -2, 1, 8);
        stands(x, 0, 7, 6, 2, 0, 4, 1, -2, 1, 8);
        stands(x, 0, 500, 6, 2, 0, 4, 1, -2, 1, 8);
        stands(x, 0, 1, 1, 1, 1, 1, 2, 0, 1, 4);
    }

    private void atTheEnds() {
        Haltingale x = Tables.of("1RA ---  --- ---", "1LA ---  --- ---", "1RB ---  --- ---", "1RB ---  0RA ---");
        stands(x, 0, 500, 500, 0, 500, 500, 2, 0, 500, 7);
        stands(x, 1, 500, 500, 0, -500, 500, 2, -500, 0, 7);
        stands(x, 2, 500, 1, 1, 1, 1, 2, 0, 1, 4);
        // 1 0 1 0 1 0 and the 0 at which it is: the last part has two PLACES.
        stands(x, 3, 6, 6, 0, 6, 3, 6, 0, 6, 3);
    }

    private void symbol() {
        Haltingale x = Tables.of("1RA ---  --- ---", "1LB ---  0LA ---");
        checks.is("where it began", 1, () -> x.symbol(0, 500, 0));
        checks.is("what it wrote last", 1, () -> x.symbol(0, 500, 499));
        checks.is("where it is", 0, () -> x.symbol(0, 500, 500));
        checks.is("at 501", 0, () -> x.symbol(0, 500, 501));
        checks.is("at -501", 0, () -> x.symbol(0, 500, -501));
        checks.is("ahead of it", 0, () -> x.symbol(0, 9, 9));
        checks.is("behind it", 1, () -> x.symbol(0, 9, 8));
        checks.is("without a STEP", 0, () -> x.symbol(0, 0, 0));
        checks.is("to the left, a 1", 1, () -> x.symbol(1, 500, -498));
        checks.is("to the left, a 0", 0, () -> x.symbol(1, 500, -499));
        checks.is("nothing of the other machine is left", 0, () -> x.symbol(1, 500, 5));
    }

    /** Checks how a machine leans behind 16 STEPS, and where it is then. */
    private void leans(String table, int place, double due) {
        Haltingale x = Tables.of(table);
        checks.is(table + ": its PLACE", place, () -> x.at(0, 16, 2));
        checks.is(table + ": lean(0, 16)", due, () -> x.lean(0, 16));
    }

    private void lean() {
        leans("1RB 1RB  0RA 0LB", 16, 1.0);
        leans("0LB 0LA  0RB 1RA", 14, 1.0);
        leans("1LB 1RB  1RB 0LA", 12, 0.75);
        leans("1LB 0LB  1RB 0LA", 10, 0.5);
        leans("1LB 1RB  0RA 1LB", 8, 0.5);
        leans("1RB 0RB  1LA 0RB", 6, 0.5);
        leans("1LB 0LA  0RB 0RA", 4, 0.25);
        leans("1LB 1RA  0RA 1LA", 2, 0.0);
        leans("0RB 0RB  0LA 0LB", 0, 0.0);
        leans("1LB 0LA  0RB 1RA", -2, 0.0);
        leans("0RB 0LB  1LA 0LB", -4, -0.25);
        leans("1LB 0LB  1RB 1LB", -6, -0.5);
        leans("1RB 0RB  1LB 0RA", -10, -0.5);
        leans("1RB 1LB  0LB 1LA", -12, -0.75);
        leans("0RB 1LA  1LB 0RB", -14, -1.0);
        Haltingale x = Tables.of("1LA ---  --- ---", "--- ---  --- ---", "1RB ---  1RC ---  1LD ---  --- ---");
        checks.is("lean(0, 500)", -1.0, () -> x.lean(0, 500));
        checks.is("without a STEP", 0.0, () -> x.lean(0, 0));
        checks.is("HANGING without a STEP", 0.0, () -> x.lean(1, 500));
        checks.is("a third is near a quarter", 0.25, () -> x.lean(2, 500));
        checks.is("behind 1 STEP to the left", -1.0, () -> x.lean(0, 1));
        checks.is("behind 1 STEP to the right", 1.0, () -> x.lean(2, 1));
        checks.is("HANGING behind 3 STEPS, of 3", 0.25, () -> x.lean(2, 3));
        leansNextToHalves("0RB ---  0LA ---", 1.0);
        leansNextToHalves("0LB ---  0RA ---", -1.0);
    }

    /** At an odd number of STEPS it is 1 PLACE away: with 7 STEPS more than half a quarter, with 9 less. */
    private void leansNextToHalves(String table, double sign) {
        Haltingale x = Tables.of(table);
        double[] due = {0.0, 1.0, 0.0, 0.25, 0.0, 0.25, 0.0, 0.25, 0.0, 0.0, 0.0, 0.0};
        for (int i = 0; i < due.length; i++) {
            int steps = i;
            checks.is(table + ": lean(0, " + i + ")", due[i] == 0.0 ? 0.0 : sign * due[i], () -> x.lean(0, steps));
        }
        checks.is(table + ": lean(0, 499)", 0.0, () -> x.lean(0, 499));
    }

    private void meets() {
        Haltingale x = Tables.of(BEAVER, "1RB ---  --- ---", "1RA ---  --- ---");
        checks.is("at once", 0, () -> x.meets(0, 0, 0, 0));
        checks.is("the first time", 0, () -> x.meets(0, 0, 0, 500));
        checks.is("STATE 1 with 0", 1, () -> x.meets(0, 1, 0, 500));
        checks.is("STATE 1 with 0 behind too few", -1, () -> x.meets(0, 1, 0, 0));
        checks.is("STATE 0 with 1", 2, () -> x.meets(0, 0, 1, 500));
        checks.is("STATE 1 with 1", 5, () -> x.meets(0, 1, 1, 5));
        checks.is("STATE 1 with 1 behind too few", -1, () -> x.meets(0, 1, 1, 4));
        checks.is("where it HANGS", 1, () -> x.meets(1, 1, 0, 500));
        checks.is("never, as it HANGS", -1, () -> x.meets(1, 1, 1, 500));
        checks.is("never, as it goes on", -1, () -> x.meets(2, 0, 1, 500));
        checks.is("never behind its last STEP", -1, () -> x.meets(0, 0, 1, 1));
        Haltingale late = Tables.of("1RB 1LB  1LA 0LC  1RZ 1LD  1RD 0RA", "1RB 1LB  1LA 0LC  --- 1LD  1RD 0RA");
        for (int i = 0; i <= 1; i++) {
            int machine = i;
            checks.is("just behind so many", 106, () -> late.meets(machine, 2, 0, 106));
            checks.is("behind one less", -1, () -> late.meets(machine, 2, 0, 105));
            checks.is("behind the most", 106, () -> late.meets(machine, 2, 0, 500));
        }
    }

    private void likeness() {
        Haltingale x = Tables.of("1RB 1LB  1LA 1RZ", "1RB 1LB  1LA 1RZ", "1LB 1RB  1RA 1LZ", "1LB 1LB  1RA 1LZ",
                "1RB 1LB  1LA 0RZ", "1RB 1LB  1LA 1RA", "--- ---  --- ---", "--- ---  --- ---  --- ---",
                "1RB ---  --- ---", "1LB ---  --- ---", "--- ---  --- ---");
        checks.is("with itself", 1, () -> x.likeness(0, 0));
        checks.is("the same", 1, () -> x.likeness(0, 1));
        checks.is("turned round", 2, () -> x.likeness(0, 2));
        checks.is("turned round, the other way", 2, () -> x.likeness(2, 0));
        checks.is("one MOVE turned round", 0, () -> x.likeness(0, 3));
        checks.is("another SYMBOL is written", 0, () -> x.likeness(0, 4));
        checks.is("another NEXT", 0, () -> x.likeness(0, 5));
        checks.is("EMPTY is not told", 0, () -> x.likeness(0, 6));
        checks.is("not as many STATES", 0, () -> x.likeness(6, 7));
        checks.is("EMPTY both", 1, () -> x.likeness(6, 10));
        checks.is("turned round with EMPTY CELLS", 2, () -> x.likeness(8, 9));
        checks.is("a CELL told, and EMPTY", 0, () -> x.likeness(8, 6));
    }

    private void champion() {
        // The last STEPS are 1, 21, 14, 14, 21, and the scores 1, 5, 6, 6, 5.
        Haltingale x = Tables.of("1RZ ---  --- ---", "1RB 1RZ  1LB 0RC  1LC 1LA", "1RB 1RZ  0RC 1RB  1LC 1LA",
                "1RB 1RZ  0RC 1RB  1LC 1LA", "1RB 1RZ  1LB 0RC  1LC 1LA", "1RA ---  --- ---");
        checks.is("no one is DECIDED", -1, () -> x.champion(0));
        x.decide(5);
        checks.is("no one is DECIDED by STOP", -1, () -> x.champion(1));
        x.decide(0);
        checks.is("the only one", 0, () -> x.champion(0));
        x.decide(4);
        x.decide(3);
        checks.is("the greatest score", 3, () -> x.champion(0));
        checks.is("the greatest last STEP", 4, () -> x.champion(1));
        x.decide(2);
        x.decide(1);
        checks.is("the smallest number of two scores", 2, () -> x.champion(0));
        checks.is("the smallest number of two last STEPS", 1, () -> x.champion(1));
        x.amend(2, 0, 0, 1, 1, 1);
        checks.is("not the one that is taken back", 3, () -> x.champion(0));
        checks.is("the other one for the greatest last STEP", 1, () -> x.champion(1));
        x.doubt(0);
        checks.is("no one any more: the score", -1, () -> x.champion(0));
        checks.is("no one any more: the last STEP", -1, () -> x.champion(1));
        Haltingale zero = Tables.of("0RZ ---  --- ---");
        zero.decide(0);
        checks.is("a score of 0 is one", 0, () -> zero.champion(0));
        checks.is("a last STEP of 1 is one", 0, () -> zero.champion(1));
        // The first one ends farther away, the second one has more ONES.
        Haltingale apart = Tables.of("0RB ---  0RZ ---", BEAVER);
        apart.decide(0);
        apart.decide(1);
        checks.is("ONES, not how far away", 1, () -> apart.champion(0));
    }

    private void tagged() {
        Haltingale x = new Haltingale();
        // 0 puts 011 behind, 1 puts 10 behind.
        x.tag(2, 11, 6);
        checks.is("not once", 37, () -> x.tagged(0, 37, 0));
        checks.is("00101 -> 101011", 0b1101011, () -> x.tagged(0, 37, 1));
        checks.is("101011 -> 101110", 0b1101110, () -> x.tagged(0, 37, 2));
        checks.is("101110 -> 111010", 0b1111010, () -> x.tagged(0, 37, 3));
        checks.is("8 times", 106, () -> x.tagged(0, 37, 8));
        checks.is("the empty row", 1, () -> x.tagged(0, 1, 200));
        checks.is("too short a row", 3, () -> x.tagged(0, 3, 200));
        checks.is("just long enough", 0b1011, () -> x.tagged(0, 4, 1));
        // 0 vanishes, 1 leaves a 0.
        x.tag(1, 1, 2);
        checks.is("111 -> 110", 0b1110, () -> x.tagged(1, 15, 1));
        checks.is("111 -> 000", 0b1000, () -> x.tagged(1, 15, 3));
        checks.is("111 -> nothing", 1, () -> x.tagged(1, 15, 6));
        checks.is("it stays so", 1, () -> x.tagged(1, 15, 200));
        checks.is("the longest row", 1, () -> x.tagged(1, 1023, 200));
        checks.is("the longest row, not once", 1023, () -> x.tagged(1, 1023, 0));
        checks.is("the longest row, once", 0b1_111111110, () -> x.tagged(1, 1023, 1));
        checks.is("the least row of nine SYMBOLS, once", 0b1_00000000, () -> x.tagged(1, 512, 1));
    }

    /** "A row of SYMBOLS with CUT or more SYMBOLS goes on": with one less it stays as it is. */
    private void taggedByCut() {
        Haltingale x = new Haltingale();
        x.tag(1, 32, 63);
        x.tag(2, 32, 63);
        x.tag(3, 32, 63);
        for (int tag = 0; tag <= 2; tag++) {
            int cut = tag + 1;
            int asked = tag;
            for (int length = 0; length <= 4; length++) {
                int zeros = 1 << length;
                int ones = (2 << length) - 1;
                int left = length - cut;
                boolean goesOn = length >= cut;
                checks.is("CUT " + cut + ", " + length + " times 0", goesOn ? 32 << left : zeros,
                        () -> x.tagged(asked, zeros, 1));
                checks.is("CUT " + cut + ", " + length + " times 1", goesOn ? (64 << left) - 1 : ones,
                        () -> x.tagged(asked, ones, 1));
            }
        }
        // Words without SYMBOLS: the row becomes shorter, and stays with less than CUT.
        Haltingale y = new Haltingale();
        y.tag(3, 1, 1);
        checks.is("seven SYMBOLS, once", 0b1_1010, () -> y.tagged(0, 0b1_1011010, 1));
        checks.is("seven SYMBOLS, twice", 0b1_0, () -> y.tagged(0, 0b1_1011010, 2));
        checks.is("seven SYMBOLS, 200 times", 0b1_0, () -> y.tagged(0, 0b1_1011010, 200));
    }

    /** "how many times it should go on": a row of three SYMBOLS that turns round, up to 200 times. */
    private void taggedSoOften() {
        Haltingale x = new Haltingale();
        x.tag(1, 2, 3);
        int[] due = {0b1_100, 0b1_001, 0b1_010};
        for (int times : new int[] {0, 1, 2, 3, 4, 198, 199, 200}) {
            checks.is(times + " times", due[times % 3], () -> x.tagged(0, 0b1_100, times));
        }
    }

    private void taggedTooLong() {
        Haltingale x = new Haltingale();
        // 1 puts 111 behind and is cut off: two SYMBOLS more each time.
        x.tag(1, 1, 15);
        checks.is("19 SYMBOLS", (1 << 20) - 1, () -> x.tagged(0, 3, 9));
        checks.is("21 SYMBOLS", -1, () -> x.tagged(0, 3, 10));
        checks.is("20 SYMBOLS", (1 << 21) - 1, () -> x.tagged(0, 7, 9));
        checks.is("22 SYMBOLS", -1, () -> x.tagged(0, 7, 10));
        // From 18 SYMBOLS it has 23 ahead of the cut, but 20 behind it.
        x.tag(3, 1, 63);
        checks.is("18 SYMBOLS", (1 << 19) - 1, () -> x.tagged(1, 31, 7));
        checks.is("18, 23 and 20 SYMBOLS", (1 << 21) - 1, () -> x.tagged(1, 31, 8));
        checks.is("25 and 22 SYMBOLS", -1, () -> x.tagged(1, 31, 9));
        checks.is("it stays so", -1, () -> x.tagged(1, 31, 200));
        // 1 puts 00000 behind, and 0 vanishes: a row becomes longer, and then shorter.
        x.tag(1, 1, 32);
        checks.is("four times 00000", 1 << 20, () -> x.tagged(2, 31, 4));
        checks.is("nothing is left of it", 1, () -> x.tagged(2, 31, 200));
        checks.is("21 SYMBOLS in between, none in the end", -1, () -> x.tagged(2, 63, 200));
        checks.is("just ahead of that", 0b111 << 15, () -> x.tagged(2, 63, 3));
    }

    private void many() {
        Haltingale x = Tables.of("1RZ ---  --- ---", "1RA ---  --- ---", "0RB 1LA  1LA 1RB", "1RB 1LZ  1LC 1RB  1LA 1LC",
                "--- ---  --- ---  --- ---  --- ---", "1LA ---  --- ---", "1RB ---  --- ---");
        x.decide(0);
        x.decide(1);
        x.decide(2);
        x.decide(3);
        x.tag(1, 1, 1);
        x.prove(5, 0, 1, 0);
        x.prove(5, 1, 0, 1);
        int[] due = {7, 2, 1, 2, 1, 1, 1, 2, 1, 0, 3 + 3 + 8 + 3 + 3};
        for (int what = 0; what <= 10; what++) {
            int asked = what;
            checks.is("many(" + what + ")", due[what], () -> x.many(asked));
        }
        x.amend(0, 0, 0, 1, 1, 2);
        x.tell(1, 1, 1, 1, 1, 1);
        x.doubt(2);
        checks.is("three are taken back", 3, () -> x.many(9));
        checks.is("they are OPEN", 5, () -> x.many(1));
        checks.is("one CELL less is EMPTY", 19, () -> x.many(10));
    }

    private void meanStop() {
        Haltingale x = Tables.of(BEAVER, "1RZ ---  --- ---", "1RB 1RZ  1LB 0RC  1LC 1LA", "1RA ---  --- ---");
        checks.is("without any", 0.0, () -> x.meanStop());
        x.decide(3);
        checks.is("without any by STOP", 0.0, () -> x.meanStop());
        x.decide(0);
        checks.is("of 6", 6.0, () -> x.meanStop());
        x.decide(1);
        checks.is("of 6 and 1", 3.5, () -> x.meanStop());
        x.decide(2);
        checks.is("of 6, 1 and 21", 28.0 / 3.0, () -> x.meanStop());
        x.doubt(0);
        checks.is("as they are doubted", 0.0, () -> x.meanStop());
    }
}
