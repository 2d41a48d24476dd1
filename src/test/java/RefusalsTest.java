/** What is full, EMPTY or DECIDED refuses a call; and of several exceptions the one that is named first is thrown. */
public final class RefusalsTest {
    /** No such machine, no such STATE of the machine 0, no such SYMBOL. */
    private static final int[][] NO_CELL = {
        {-1, 0, 0}, {12, 0, 0}, {0, -1, 0}, {0, 2, 0}, {0, 0, -1}, {0, 0, 2}, {12, 2, 2}};
    /** WRITE, MOVE and NEXT, of which one at least is wrong, of a machine of 2 STATES. */
    private static final int[][] NO_FILLING = {
        {-1, 1, 0}, {2, 1, 0}, {1, 0, 0}, {1, 2, 0}, {1, -2, 0}, {1, 1, -1}, {1, 1, 3}, {2, 0, 3}};
    /** KIND, a and b, of which one at least is wrong. */
    private static final int[][] NO_CERTIFICATE = {
        {-1, 1, 0}, {4, 1, 0}, {0, 0, 0}, {0, 501, 0}, {0, 1, 1}, {1, -1, 1}, {1, 151, 1}, {1, 0, 0}, {1, 0, 151},
        {2, 0, 0}, {2, 7, 0}, {2, 1, 1}, {3, 0, 0}, {3, 4, 0}, {3, 1, 1}, {4, -1, -1}};

    private final Checks checks = new Checks("RefusalsTest");
    private final Edges some = new Edges(checks, RefusalsTest::someMachines);
    private final Edges full = new Edges(checks, RefusalsTest::fullOfAll);

    public static void main(String[] args) {
        RefusalsTest test = new RefusalsTest();
        test.twelveMachines();
        test.fourTags();
        test.tellIsForEmptyCells();
        test.amendIsForOthers();
        test.childOfWhatDoesNotHang();
        test.decidedMachines();
        test.noCellGoesFirst();
        test.noMachineGoesFirst();
        test.noTagGoesFirst();
        test.noFillingGoesAheadOfTheCell();
        test.aWrongNumberGoesAheadOfNoRoom();
        test.noCertificateGoesAheadOfDecided();
        test.checks.end();
    }

    /** The machine 0 is DECIDED by STOP, 1 by CYCLE, 2 by BACK, 3 by GRAM; 4 HANGS, and 5 goes on. */
    private static Haltingale someMachines() {
        Haltingale x = Tables.of("1RZ 1RB  --- ---", "1RA ---  --- ---", "0RB ---  0LA ---", "1LA ---  --- ---",
                "1RB ---  --- ---", "0LB 1LB  1RA 0LA");
        x.prove(0, 0, 1, 0);
        x.prove(1, 1, 0, 1);
        x.prove(2, 2, 2, 0);
        x.prove(3, 3, 1, 0);
        x.tag(3, 63, 2);
        return x;
    }

    /** The same with machines up to 12, EMPTY ones, and TAGS up to 4. */
    private static Haltingale fullOfAll() {
        Haltingale x = someMachines();
        for (int i = 6; i < 12; i++) {
            x.machine(2 + i % 3);
        }
        x.tag(1, 1, 1);
        x.tag(2, 11, 6);
        x.tag(1, 2, 3);
        return x;
    }

    /** With ten machines and one more by child(), there is room for the twelfth one. */
    private static Haltingale elevenMachines() {
        Haltingale x = new Haltingale();
        for (int i = 0; i < 10; i++) {
            x.machine(2);
        }
        x.child(9, 0);
        return x;
    }

    private void twelveMachines() {
        for (int i = 2; i <= 4; i++) {
            int states = i;
            checks.is("machine(" + i + ") of 11", 11, () -> elevenMachines().machine(states));
            full.refuses("machine(" + i + ") of 12", Edges.STATE, x -> x.machine(states));
        }
        checks.is("child(0, 8) of 11", 11, () -> elevenMachines().child(0, 8));
        for (int i = 0; i <= 8; i++) {
            int way = i;
            full.refuses("child(4, " + i + ") of 12", Edges.STATE, x -> x.child(4, way));
        }
        Edges byChild = new Edges(checks, () -> withOneChild(elevenMachines()));
        byChild.refuses("machine(2), as a CHILD is the twelfth one", Edges.STATE, x -> x.machine(2));
        byChild.refuses("child(0, 0), as a CHILD is the twelfth one", Edges.STATE, x -> x.child(0, 0));
        Haltingale x = fullOfAll();
        checks.same("machine(2) of 12", Checks.outcome(() -> x.machine(2)), "throws." + Edges.STATE);
        x.doubt(0);
        x.amend(0, 0, 0, 1, 1, 0);
        checks.same("machine(2) of 12 still", Checks.outcome(() -> x.machine(2)), "throws." + Edges.STATE);
    }

    private static Haltingale withOneChild(Haltingale x) {
        x.child(0, 0);
        return x;
    }

    private void fourTags() {
        Haltingale three = someMachines();
        three.tag(1, 1, 1);
        three.tag(1, 1, 1);
        checks.is("the last TAG that there is room for", 3, () -> three.tag(3, 63, 63));
        full.refuses("tag of 4", Edges.STATE, x -> x.tag(1, 1, 1));
        full.refuses("tag of 4 with the greatest numbers", Edges.STATE, x -> x.tag(3, 63, 63));
    }

    private void tellIsForEmptyCells() {
        Edges all = new Edges(checks, () -> Tables.of("1RB 1LB  1LA 1RZ", "0LC 0LZ  0RA 0RB  1LC 1RA"));
        for (int i = 0; i < 6; i++) {
            int state = i / 2;
            int symbol = i % 2;
            all.refuses("tell of the CELL " + i + " that is told", Edges.STATE, x -> x.tell(1, state, symbol, 1, 1, 3));
        }
        all.refuses("tell of it the same again", Edges.STATE, x -> x.tell(0, 0, 0, 1, 1, 1));
        some.refuses("tell of a CELL that is told, DECIDED", Edges.STATE, x -> x.tell(1, 0, 0, 1, 1, 0));
        some.allows("tell of a CELL that is EMPTY", x -> x.tell(1, 0, 1, 1, 1, 0));
        Edges amended = new Edges(checks, () -> {
            Haltingale x = someMachines();
            x.amend(0, 0, 0, 0, -1, 0);
            x.tell(0, 1, 1, 0, -1, 0);
            return x;
        });
        amended.refuses("tell of a CELL that is AMENDED", Edges.STATE, x -> x.tell(0, 0, 0, 1, 1, 0));
        amended.refuses("tell of a CELL that was told at last", Edges.STATE, x -> x.tell(0, 1, 1, 1, 1, 0));
    }

    private void amendIsForOthers() {
        Edges none = new Edges(checks, () -> Tables.of("--- ---  --- ---", "--- ---  --- ---  --- ---"));
        for (int i = 0; i < 6; i++) {
            int state = i / 2;
            int symbol = i % 2;
            none.refuses("amend of the CELL " + i + " that is EMPTY", Edges.STATE, x -> x.amend(1, state, symbol, 0, -1, 0));
        }
        some.refuses("amend of a CELL that is EMPTY, DECIDED", Edges.STATE, x -> x.amend(1, 0, 1, 1, 1, 0));
        some.allows("amend of a CELL that is not EMPTY", x -> x.amend(1, 0, 0, 1, 1, 0));
    }

    private void childOfWhatDoesNotHang() {
        for (int i = -1; i <= 17; i++) {
            int way = i;
            some.refuses("child in the way " + i + " of one that STOPS", Edges.ARGUMENT, x -> x.child(0, way));
            some.refuses("child in the way " + i + " of one that goes on", Edges.ARGUMENT, x -> x.child(5, way));
        }
    }

    private void decidedMachines() {
        int[][] right = {{0, 1, 0}, {1, 0, 1}, {2, 2, 0}, {3, 1, 0}, {0, 500, 0}};
        for (int i = 0; i <= 3; i++) {
            int machine = i;
            for (int[] r : right) {
                some.refuses("prove by " + r[0] + " of one that is DECIDED by " + i, Edges.STATE,
                        x -> x.prove(machine, r[0], r[1], r[2]));
            }
            some.refuses("decide of one that is DECIDED by " + i, Edges.STATE, x -> x.decide(machine));
        }
        some.allows("prove of one that is OPEN", x -> x.prove(4, 1, 0, 1));
        some.allows("decide of one that is OPEN", x -> x.decide(4));
    }

    private void noCellGoesFirst() {
        Edges[] all = {some, full};
        for (Edges edges : all) {
            for (int[] c : NO_CELL) {
                String where = " of " + c[0] + " " + c[1] + " " + c[2];
                for (int[] f : NO_FILLING) {
                    edges.refuses("tell" + where + " with a wrong filling", Edges.INDEX,
                            x -> x.tell(c[0], c[1], c[2], f[0], f[1], f[2]));
                    edges.refuses("amend" + where + " with a wrong filling", Edges.INDEX,
                            x -> x.amend(c[0], c[1], c[2], f[0], f[1], f[2]));
                }
                edges.refuses("cell" + where + ", no what", Edges.INDEX, x -> x.cell(c[0], c[1], c[2], 3));
                edges.refuses("cell" + where + ", what -1", Edges.INDEX, x -> x.cell(c[0], c[1], c[2], -1));
                edges.refuses("meets" + where + " behind 501", Edges.INDEX, x -> x.meets(c[0], c[1], c[2], 501));
                edges.refuses("meets" + where + " behind -1", Edges.INDEX, x -> x.meets(c[0], c[1], c[2], -1));
            }
        }
    }

    private void noMachineGoesFirst() {
        for (int i : new int[] {-1, 12}) {
            int none = i;
            some.refuses("child of " + i + " in no way", Edges.INDEX, x -> x.child(none, -1));
            full.refuses("child of " + i + " in no way, of 12", Edges.INDEX, x -> x.child(none, 99));
            full.refuses("child of " + i + " of 12", Edges.INDEX, x -> x.child(none, 0));
            for (int[] c : NO_CERTIFICATE) {
                some.refuses("prove of " + i + " by " + c[0] + ", " + c[1] + ", " + c[2], Edges.INDEX,
                        x -> x.prove(none, c[0], c[1], c[2]));
            }
            some.refuses("ofMachine of " + i + ", 9", Edges.INDEX, x -> x.ofMachine(none, 9));
            some.refuses("ofMachine of " + i + ", -1", Edges.INDEX, x -> x.ofMachine(none, -1));
            some.refuses("at of " + i + " behind 501", Edges.INDEX, x -> x.at(none, 501, 0));
            some.refuses("at of " + i + ", 8", Edges.INDEX, x -> x.at(none, 0, 8));
            some.refuses("symbol of " + i + " behind -1", Edges.INDEX, x -> x.symbol(none, -1, 0));
            some.refuses("symbol of " + i + " at 502", Edges.INDEX, x -> x.symbol(none, 0, 502));
            some.refuses("lean of " + i + " behind 501", Edges.INDEX, x -> x.lean(none, 501));
            some.refuses("cycleIn of " + i + ", 0", Edges.INDEX, x -> x.cycleIn(none, 0));
            some.refuses("cycleIn of " + i + ", 41", Edges.INDEX, x -> x.cycleIn(none, 41));
        }
    }

    private void noTagGoesFirst() {
        for (int i : new int[] {-1, 4}) {
            int none = i;
            full.refuses("tagged of " + i + ", the row 0", Edges.INDEX, x -> x.tagged(none, 0, 0));
            full.refuses("tagged of " + i + ", the row 1024", Edges.INDEX, x -> x.tagged(none, 1024, 0));
            full.refuses("tagged of " + i + ", -1 times", Edges.INDEX, x -> x.tagged(none, 1, -1));
            full.refuses("tagged of " + i + ", 201 times", Edges.INDEX, x -> x.tagged(none, 1, 201));
        }
    }

    private void noFillingGoesAheadOfTheCell() {
        for (int[] f : NO_FILLING) {
            String filling = " with " + f[0] + ", " + f[1] + ", " + f[2];
            some.refuses("tell" + filling + " of a CELL that is told", Edges.ARGUMENT,
                    x -> x.tell(0, 0, 0, f[0], f[1], f[2]));
            some.refuses("amend" + filling + " of a CELL that is EMPTY", Edges.ARGUMENT,
                    x -> x.amend(0, 1, 1, f[0], f[1], f[2]));
        }
    }

    private void aWrongNumberGoesAheadOfNoRoom() {
        full.refuses("machine(1) of 12", Edges.ARGUMENT, x -> x.machine(1));
        full.refuses("machine(5) of 12", Edges.ARGUMENT, x -> x.machine(5));
        full.refuses("child in the way -1 of 12", Edges.ARGUMENT, x -> x.child(4, -1));
        full.refuses("child in the way 9 of 12", Edges.ARGUMENT, x -> x.child(4, 9));
        full.refuses("child of one that STOPS, of 12", Edges.ARGUMENT, x -> x.child(0, 0));
        full.refuses("child of one that goes on, of 12", Edges.ARGUMENT, x -> x.child(5, 0));
        full.refuses("tag with the CUT 0, of 4", Edges.ARGUMENT, x -> x.tag(0, 1, 1));
        full.refuses("tag with the CUT 4, of 4", Edges.ARGUMENT, x -> x.tag(4, 1, 1));
        full.refuses("tag with the word 0 of 0, of 4", Edges.ARGUMENT, x -> x.tag(1, 0, 1));
        full.refuses("tag with the word 64 of 0, of 4", Edges.ARGUMENT, x -> x.tag(1, 64, 1));
        full.refuses("tag with the word 0 of 1, of 4", Edges.ARGUMENT, x -> x.tag(1, 1, 0));
        full.refuses("tag with the word 64 of 1, of 4", Edges.ARGUMENT, x -> x.tag(1, 1, 64));
    }

    private void noCertificateGoesAheadOfDecided() {
        for (int i = 0; i <= 3; i++) {
            int machine = i;
            for (int[] c : NO_CERTIFICATE) {
                some.refuses("prove by " + c[0] + ", " + c[1] + ", " + c[2] + " of one that is DECIDED by " + i,
                        Edges.ARGUMENT, x -> x.prove(machine, c[0], c[1], c[2]));
            }
        }
    }
}
