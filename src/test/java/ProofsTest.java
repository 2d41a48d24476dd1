/** Promises 7 to 9: prove, doubt, decide. What section 2 says of CERTIFICATES is in the CertificatesTest. */
public final class ProofsTest {
    /** A machine for each KIND that is taken by its CERTIFICATE, and has a CELL that is EMPTY. */
    private static final String[] TABLES = {
        "1RZ ---  --- ---", "0LB ---  0RA ---", "0RB ---  0LA ---", "1RA ---  --- ---"};
    private static final int[][] CERTIFICATES = {{1, 0}, {3, 4}, {2, 0}, {3, 0}};

    private final Checks checks = new Checks("ProofsTest");

    public static void main(String[] args) {
        ProofsTest test = new ProofsTest();
        test.proveDecides();
        test.proveCounts();
        test.takenBackByTell();
        test.takenBackByAmend();
        test.takenBackByDoubt();
        test.notTakenBackByOthers();
        test.doubtOfSome();
        test.doubtOfNoneAndOfAll();
        test.decide();
        test.decideByStopFirst();
        test.decideByCycleOfThirty();
        test.decideByBackThenGram();
        test.decideCounts();
        test.checks.end();
    }

    /** The four machines, each one DECIDED by the KIND of its number. */
    private static Haltingale decidedByEach() {
        Haltingale x = Tables.of(TABLES);
        for (int kind = 0; kind <= 3; kind++) {
            x.prove(kind, kind, CERTIFICATES[kind][0], CERTIFICATES[kind][1]);
        }
        return x;
    }

    private void isOpen(Haltingale x, int machine) {
        for (int what = 2; what <= 4; what++) {
            int asked = what;
            checks.is("OPEN: ofMachine(" + machine + ", " + what + ")", -1, () -> x.ofMachine(machine, asked));
        }
    }

    private void isDecided(Haltingale x, int machine, int kind, int a, int b) {
        checks.is("the KIND of the machine " + machine, kind, () -> x.ofMachine(machine, 2));
        checks.is("the a of the machine " + machine, a, () -> x.ofMachine(machine, 3));
        checks.is("the b of the machine " + machine, b, () -> x.ofMachine(machine, 4));
    }

    /** The machines but for one are DECIDED as before. */
    private void othersAreDecided(Haltingale x, int open) {
        for (int kind = 0; kind <= 3; kind++) {
            if (kind != open) {
                isDecided(x, kind, kind, CERTIFICATES[kind][0], CERTIFICATES[kind][1]);
            }
        }
    }

    private void proveDecides() {
        for (int i = 0; i <= 3; i++) {
            int kind = i;
            Haltingale x = Tables.of(TABLES);
            checks.is("prove by " + i, true, () -> x.prove(kind, kind, CERTIFICATES[kind][0], CERTIFICATES[kind][1]));
            isDecided(x, i, i, CERTIFICATES[i][0], CERTIFICATES[i][1]);
            for (int other = 0; other <= 3; other++) {
                if (other != i) {
                    isOpen(x, other);
                }
            }
        }
    }

    private void proveCounts() {
        Haltingale x = Tables.of("1RB 1LB  1LA 1RZ");
        checks.is("not taken", false, () -> x.prove(0, 0, 5, 0));
        isOpen(x, 0);
        checks.is("many(7)", 1, () -> x.many(7));
        checks.is("many(8)", 0, () -> x.many(8));
        checks.is("not taken, the same again", false, () -> x.prove(0, 0, 5, 0));
        checks.is("taken", true, () -> x.prove(0, 0, 6, 0));
        isDecided(x, 0, 0, 6, 0);
        checks.is("many(7)", 3, () -> x.many(7));
        checks.is("many(8)", 1, () -> x.many(8));
        x.doubt(0);
        checks.is("many(7), as it is doubted", 3, () -> x.many(7));
        checks.is("many(8), as it is doubted", 1, () -> x.many(8));
        checks.is("taken again", true, () -> x.prove(0, 0, 6, 0));
        checks.is("many(7)", 4, () -> x.many(7));
        checks.is("many(8)", 2, () -> x.many(8));
    }

    /** "till that is taken back: as a CELL of it is told", be it one that is never met. */
    private void takenBackByTell() {
        for (int kind = 0; kind <= 3; kind++) {
            Haltingale x = decidedByEach();
            x.tell(kind, 1, 1, 0, 1, 0);
            isOpen(x, kind);
            othersAreDecided(x, kind);
            checks.is("many(9)", 1, () -> x.many(9));
            checks.is("many(1)", 1, () -> x.many(1));
        }
    }

    /** "or AMENDED", be it to what it was. */
    private void takenBackByAmend() {
        for (int i = 0; i <= 3; i++) {
            int kind = i;
            Haltingale x = decidedByEach();
            int next = x.cell(i, 0, 0, 2);
            checks.is("amend of one that is DECIDED by " + i, true,
                    () -> x.amend(kind, 0, 0, x.cell(kind, 0, 0, 0), kind == 1 ? -1 : 1, next));
            isOpen(x, i);
            othersAreDecided(x, i);
            checks.is("many(9)", 1, () -> x.many(9));
            checks.is("amend of it as it is OPEN", false, () -> x.amend(kind, 0, 0, 1, 1, 0));
            checks.is("many(9) stays", 1, () -> x.many(9));
        }
    }

    /** "or that KIND is DOUBTED". */
    private void takenBackByDoubt() {
        for (int i = 0; i <= 3; i++) {
            int kind = i;
            Haltingale x = decidedByEach();
            checks.is("doubt(" + i + ")", 1, () -> x.doubt(kind));
            isOpen(x, i);
            othersAreDecided(x, i);
            checks.is("many(9)", 1, () -> x.many(9));
            checks.is("doubt(" + i + ") again", 0, () -> x.doubt(kind));
            checks.is("many(9) stays", 1, () -> x.many(9));
            checks.is("it can be proved again", true,
                    () -> x.prove(kind, kind, CERTIFICATES[kind][0], CERTIFICATES[kind][1]));
        }
    }

    private void notTakenBackByOthers() {
        Haltingale x = decidedByEach();
        x.machine(2);
        x.child(4, 0);
        x.tell(4, 0, 0, 1, 1, 0);
        x.amend(5, 0, 0, 0, 1, 0);
        x.prove(4, 0, 1, 0);
        x.decide(5);
        x.tag(1, 1, 1);
        othersAreDecided(x, 4);
        checks.is("many(9)", 0, () -> x.many(9));
    }

    private void doubtOfSome() {
        Haltingale x = Tables.of("1RZ ---  --- ---", "1RA ---  --- ---", "1RB 1LB  1LA 1RZ",
                "1RB 1LA  1LA 1RB  0RD 0LA  0RZ 0LA", "1RB 1LZ  1LC 1RB  1LA 1LC", "--- ---  --- ---");
        for (int i = 0; i < 6; i++) {
            x.decide(i);
        }
        checks.is("doubt(0)", 2, () -> x.doubt(0));
        checks.is("many(9)", 2, () -> x.many(9));
        isOpen(x, 0);
        isDecided(x, 1, 1, 0, 1);
        isOpen(x, 2);
        checks.is("doubt(1)", 1, () -> x.doubt(1));
        checks.is("doubt(2)", 1, () -> x.doubt(2));
        checks.is("doubt(3)", 1, () -> x.doubt(3));
        checks.is("many(1)", 6, () -> x.many(1));
        checks.is("many(9)", 5, () -> x.many(9));
        checks.is("it can be decided again", 0, () -> x.decide(2));
    }

    private void doubtOfNoneAndOfAll() {
        Haltingale x = new Haltingale();
        for (int kind = 0; kind <= 3; kind++) {
            int doubted = kind;
            checks.is("doubt(" + kind + ") without machines", 0, () -> x.doubt(doubted));
        }
        for (int i = 0; i < 12; i++) {
            Tables.tell(x, "1LA ---  --- ---");
            x.decide(i);
        }
        checks.is("doubt(3), as all are DECIDED by 1", 0, () -> x.doubt(3));
        checks.is("doubt(1) of all 12", 12, () -> x.doubt(1));
        checks.is("many(9)", 12, () -> x.many(9));
        checks.is("many(1)", 12, () -> x.many(1));
        checks.is("doubt(1) again", 0, () -> x.doubt(1));
    }

    private void decided(String table, int kind, int a, int b) {
        Haltingale x = Tables.of(table);
        checks.is("decide of " + table, kind, () -> x.decide(0));
        isDecided(x, 0, kind, a, b);
    }

    private void decide() {
        decided("1RA ---  --- ---", 1, 0, 1);
        decided("1RB 1RB  1LA 1LA", 1, 2, 2);
        decided("1RB 1LA  1LA 1RB  0RD 0LA  0RZ 0LA", 2, 2, 0);
        decided("0LB 0RA  0RC 1LA  1RA 1LD  1RC 1RZ", 2, 5, 0);
        decided("1RB 1LZ  1LC 1RB  1LA 1LC", 3, 2, 0);
        decided("1RC 0LB  1LA 0LZ  1LA 0RA", 3, 3, 0);
        // Of what HANGS, at once or later, and of what goes on too wildly, there is none.
        decided("--- ---  --- ---", -1, -1, -1);
        decided("1RB ---  --- ---", -1, -1, -1);
        decided("1RB 1LB  --- 0LC  0LB 1LA", -1, -1, -1);
    }

    /** "STOP with at most 500 STEPS": from 1 to 107 of them, as many as a machine of 4 STATES can do. */
    private void decideByStopFirst() {
        decided("1RZ ---  --- ---", 0, 1, 0);
        decided("1RB 1LB  1LA 1RZ", 0, 6, 0);
        decided("1RB 1LB  1LA 0LC  1RZ 1LD  1RD 0RA", 0, 107, 0);
    }

    /** "then CYCLE as cycleIn() of 30": a sum of 30 is within it, and with 31 BACK, GRAM or nothing is next. */
    private void decideByCycleOfThirty() {
        decided("0RB ---  0LA ---", 1, 0, 2);
        decided("1LB 0LZ  0LC 1RA  1RB 0RA", 1, 0, 5);
        decided("1LC 0LC  1LD 0RC  1RB 0LD  0RD 1LA", 1, 29, 1);
        decided("0LB 1LB  1RA 1RD  1RB 0RD  1LA 0RD", 1, 17, 13);
        decided("1LC 0RC  0LC 1RD  0LD 1LD  1RB 1LC", 2, 1, 0);
        decided("1LB 1LA  1LC 1RD  1RB 1RC  1LA 0RB", 2, 1, 0);
        decided("1RC 0LB  1LA 1RA  0LA 0RD  1RB ---", 3, 3, 0);
        String nothing = "1LD 0LC  1RA 0LD  1LZ 0RB  1RC 0LA";
        checks.is("a sum of 31 of " + nothing, 22 * 200 + 9, () -> Tables.of(nothing).cycleIn(0, 31));
        decided(nothing, -1, -1, -1);
    }

    /** "then BACK as backIn(); then GRAM as gramIn()": 6 and 3 are within these, 7 and 4 are not. */
    private void decideByBackThenGram() {
        decided("1RC 1LA  0LD 1RZ  1LD 1RC  0RB 1LA", 2, 3, 0);
        String six = "1LD 0RC  0LA 0RB  0RZ 1RD  1RB 1LD";
        checks.is("GRAM of " + six, 1, () -> Tables.of(six).gramIn(0));
        decided(six, 2, 6, 0);
        // Without a ROW at the depth 7 for the first time; and by rows of 4 SYMBOLS at least.
        decided("1LB 1RA  0RD 0LA  1LA 1RZ  1RC 0LB", 3, 2, 0);
        decided("1LC 0RB  1RA 0RZ  1LD 0LA  1RD 1RA", -1, -1, -1);
    }

    private void decideCounts() {
        Haltingale x = Tables.of("1RZ ---  --- ---", "--- ---  --- ---");
        checks.is("decide", 0, () -> x.decide(0));
        checks.is("many(2)", 1, () -> x.many(2));
        checks.is("decide, without any", -1, () -> x.decide(1));
        checks.is("decide, without any, again", -1, () -> x.decide(1));
        for (int what = 7; what <= 9; what++) {
            int asked = what;
            checks.is("many(" + what + ") counts no decide()", 0, () -> x.many(asked));
        }
    }
}
