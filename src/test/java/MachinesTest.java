/** Promises 1 to 6: a new object, machine, tell, amend, child, tag. */
public final class MachinesTest {
    private static final String INDEX = "IndexOutOfBoundsException";
    private static final String ARGUMENT = "IllegalArgumentException";
    private static final String STATE = "IllegalStateException";

    private final Checks checks = new Checks("MachinesTest");

    public static void main(String[] args) {
        MachinesTest test = new MachinesTest();
        test.newObject();
        test.machine();
        test.tell();
        test.tellTakesBack();
        test.amend();
        test.childFillsTheCell();
        test.childWays();
        test.childRefuses();
        test.tag();
        test.checks.end();
    }

    private void newObject() {
        Haltingale x = new Haltingale();
        for (int what = 0; what <= 10; what++) {
            int asked = what;
            checks.is("new: many(" + what + ")", 0, () -> x.many(asked));
        }
        checks.is("new: champion(0)", -1, () -> x.champion(0));
        checks.is("new: champion(1)", -1, () -> x.champion(1));
        checks.is("new: meanStop()", 0, () -> x.meanStop());
        checks.noSuch("new: ofMachine(0, 0)", () -> x.ofMachine(0, 0));
        checks.noSuch("new: tagged(0, 1, 0)", () -> x.tagged(0, 1, 0));
        Haltingale other = new Haltingale();
        other.machine(2);
        checks.is("an object has nothing of another one", 0, () -> x.many(0));
    }

    private void machine() {
        Haltingale x = new Haltingale();
        for (int states : new int[] {1, 5, 0, -1, Integer.MIN_VALUE, Integer.MAX_VALUE}) {
            checks.refuses(x, ARGUMENT, "machine(" + states + ")", () -> x.machine(states));
        }
        for (int i = 0; i < 12; i++) {
            int number = i;
            checks.is("machine() number " + i, i, () -> x.machine(2 + number % 3));
            checks.is("its STATES", 2 + i % 3, () -> x.ofMachine(number, 0));
            checks.is("its CELLS that are EMPTY", 2 * (2 + i % 3), () -> x.ofMachine(number, 1));
            checks.is("it is OPEN", -1, () -> x.ofMachine(number, 2));
        }
        checks.refuses(x, STATE, "machine(2) of 12", () -> x.machine(2));
        checks.refuses(x, ARGUMENT, "machine(5) of 12", () -> x.machine(5));
        checks.is("many(0)", 12, () -> x.many(0));
    }

    private void tell() {
        Haltingale x = new Haltingale();
        x.machine(2);
        x.machine(3);
        checks.is("tell", 3, () -> x.tell(0, 0, 0, 1, -1, 2));
        checks.is("tell", 2, () -> x.tell(0, 1, 1, 0, 1, 0));
        checks.is("what it WRITES", 1, () -> x.cell(0, 0, 0, 0));
        checks.is("its MOVE", 0, () -> x.cell(0, 0, 0, 1));
        checks.is("its NEXT", 2, () -> x.cell(0, 0, 0, 2));
        checks.is("what the other WRITES", 0, () -> x.cell(0, 1, 1, 0));
        checks.is("the other's MOVE", 1, () -> x.cell(0, 1, 1, 1));
        checks.is("a CELL between is EMPTY", -1, () -> x.cell(0, 0, 1, 0));
        checks.is("tell of another machine", 5, () -> x.tell(1, 2, 1, 1, 1, 3));
        checks.is("the first machine has as many", 2, () -> x.ofMachine(0, 1));

        checks.refuses(x, INDEX, "tell of machine 2", () -> x.tell(2, 0, 0, 1, 1, 0));
        checks.refuses(x, INDEX, "tell of machine -1", () -> x.tell(-1, 0, 0, 1, 1, 0));
        checks.refuses(x, INDEX, "tell of STATE 2 of 2", () -> x.tell(0, 2, 0, 1, 1, 0));
        checks.refuses(x, INDEX, "tell of STATE -1", () -> x.tell(0, -1, 0, 1, 1, 0));
        checks.refuses(x, INDEX, "tell of SYMBOL 2", () -> x.tell(0, 0, 2, 1, 1, 0));
        checks.refuses(x, INDEX, "tell of SYMBOL -1", () -> x.tell(0, 0, -1, 1, 1, 0));
        checks.refuses(x, INDEX, "tell of STATE and SYMBOL at the ends", () -> x.tell(0, 1 << 30, 1 << 31, 1, 1, 0));
        checks.refuses(x, ARGUMENT, "tell that WRITES 2", () -> x.tell(0, 0, 1, 2, 1, 0));
        checks.refuses(x, ARGUMENT, "tell that WRITES -1", () -> x.tell(0, 0, 1, -1, 1, 0));
        checks.refuses(x, ARGUMENT, "tell with a MOVE of 0", () -> x.tell(0, 0, 1, 1, 0, 0));
        checks.refuses(x, ARGUMENT, "tell with a MOVE of 2", () -> x.tell(0, 0, 1, 1, 2, 0));
        checks.refuses(x, ARGUMENT, "tell with a NEXT of 3 of 2", () -> x.tell(0, 0, 1, 1, 1, 3));
        checks.refuses(x, ARGUMENT, "tell with a NEXT of -1", () -> x.tell(0, 0, 1, 1, 1, -1));
        checks.refuses(x, STATE, "tell of a CELL that is told", () -> x.tell(0, 0, 0, 1, -1, 2));
        checks.refuses(x, INDEX, "no STATE goes ahead of a wrong NEXT", () -> x.tell(0, 2, 0, 5, 5, 5));
        checks.refuses(x, ARGUMENT, "a wrong NEXT goes ahead of not EMPTY", () -> x.tell(0, 0, 0, 1, 1, 3));
    }

    private void tellTakesBack() {
        Haltingale x = Tables.of("1RZ ---  --- ---");
        checks.is("prove", true, () -> x.prove(0, 0, 1, 0));
        checks.is("tell of a DECIDED machine", 2, () -> x.tell(0, 1, 1, 1, 1, 0));
        checks.is("it is OPEN then", -1, () -> x.ofMachine(0, 2));
        checks.is("its a is NONE", -1, () -> x.ofMachine(0, 3));
        checks.is("its b is NONE", -1, () -> x.ofMachine(0, 4));
        checks.is("many(9)", 1, () -> x.many(9));
        checks.is("tell of an OPEN machine", 1, () -> x.tell(0, 1, 0, 1, 1, 0));
        checks.is("many(9) stays", 1, () -> x.many(9));
    }

    private void amend() {
        Haltingale x = Tables.of("1RZ 1LB  --- ---", "1RZ ---  --- ---");
        checks.is("amend of an OPEN machine", false, () -> x.amend(0, 0, 1, 0, 1, 2));
        checks.is("what it WRITES", 0, () -> x.cell(0, 0, 1, 0));
        checks.is("its MOVE", 1, () -> x.cell(0, 0, 1, 1));
        checks.is("its NEXT", 2, () -> x.cell(0, 0, 1, 2));
        checks.is("its CELLS that are EMPTY", 2, () -> x.ofMachine(0, 1));
        checks.is("many(9)", 0, () -> x.many(9));
        x.decide(0);
        x.decide(1);
        checks.is("amend of a DECIDED machine", true, () -> x.amend(0, 0, 0, 1, -1, 0));
        checks.is("it is OPEN then", -1, () -> x.ofMachine(0, 2));
        checks.is("the other one is DECIDED", 0, () -> x.ofMachine(1, 2));
        checks.is("many(9)", 1, () -> x.many(9));
        checks.is("amend to the same, DECIDED", true, () -> x.amend(1, 0, 0, 1, 1, 2));
        checks.is("it is OPEN, too", -1, () -> x.ofMachine(1, 2));
        x.decide(1);

        checks.refuses(x, INDEX, "amend of machine 2", () -> x.amend(2, 0, 0, 1, 1, 0));
        checks.refuses(x, INDEX, "amend of machine -1", () -> x.amend(-1, 0, 0, 1, 1, 0));
        checks.refuses(x, INDEX, "amend of STATE 2 of 2", () -> x.amend(1, 2, 0, 1, 1, 0));
        checks.refuses(x, INDEX, "amend of STATE -1", () -> x.amend(1, -1, 0, 1, 1, 0));
        checks.refuses(x, INDEX, "amend of SYMBOL 2", () -> x.amend(1, 0, 2, 1, 1, 0));
        checks.refuses(x, INDEX, "amend of SYMBOL -1", () -> x.amend(1, 0, -1, 1, 1, 0));
        checks.refuses(x, ARGUMENT, "amend that WRITES 2", () -> x.amend(1, 0, 0, 2, 1, 0));
        checks.refuses(x, ARGUMENT, "amend with a MOVE of 0", () -> x.amend(1, 0, 0, 1, 0, 0));
        checks.refuses(x, ARGUMENT, "amend with a NEXT of 3 of 2", () -> x.amend(1, 0, 0, 1, 1, 3));
        checks.refuses(x, ARGUMENT, "amend with a NEXT of -1", () -> x.amend(1, 0, 0, 1, 1, -1));
        checks.refuses(x, STATE, "amend of an EMPTY CELL", () -> x.amend(1, 1, 1, 1, 1, 0));
        checks.refuses(x, INDEX, "no SYMBOL goes ahead of a wrong MOVE", () -> x.amend(1, 0, 2, 1, 7, 0));
        checks.refuses(x, ARGUMENT, "a wrong MOVE goes ahead of EMPTY", () -> x.amend(1, 1, 1, 1, 7, 0));
        checks.is("what throws takes nothing back", 0, () -> x.ofMachine(1, 2));
    }

    private void childFillsTheCell() {
        // It HANGS in the STATE 1 at a 0 behind its first STEP; the greatest NEXT is 1, so that 2 can be next.
        int[][] due = {
            {1, 1, 4},
            {1, 1, 0}, {0, 1, 0}, {1, 0, 0}, {0, 0, 0},
            {1, 1, 1}, {0, 1, 1}, {1, 0, 1}, {0, 0, 1},
            {1, 1, 2}, {0, 1, 2}};
        Haltingale x = Tables.of("1RB ---  --- 0LZ  --- ---  --- ---");
        for (int way = 0; way < due.length; way++) {
            int asked = way;
            int number = way + 1;
            checks.is("child(0, " + way + ")", number, () -> x.child(0, asked));
            for (int what = 0; what <= 2; what++) {
                int part = what;
                checks.is("the CELL of the way " + way + ", " + what, due[way][what], () -> x.cell(number, 1, 0, part));
            }
            checks.is("the rest is the same: EMPTY", 5, () -> x.ofMachine(number, 1));
            checks.is("the rest is the same: MOVE to the right", 1, () -> x.cell(number, 0, 0, 1));
            checks.is("the rest is the same: MOVE to the left", 0, () -> x.cell(number, 1, 1, 1));
            checks.is("it does a STEP more, and where to", due[way][1] == 1 ? 2 : 0, () -> x.at(number, 2, 2));
            checks.is("the rest is the same: NEXT", 4, () -> x.cell(number, 1, 1, 2));
            checks.is("a CHILD is OPEN", -1, () -> x.ofMachine(number, 2));
        }
        checks.is("the parent's CELL is EMPTY", -1, () -> x.cell(0, 1, 0, 0));
        checks.is("many(0)", 12, () -> x.many(0));

        Haltingale y = Tables.of("1RB ---  --- 0LZ  --- ---  --- ---");
        y.child(0, 11);
        checks.is("the way 11 WRITES", 1, () -> y.cell(1, 1, 0, 0));
        checks.is("the way 11 MOVES", 0, () -> y.cell(1, 1, 0, 1));
        y.child(0, 12);
        checks.is("the way 12 WRITES", 0, () -> y.cell(2, 1, 0, 0));
        checks.is("the way 12 MOVES", 0, () -> y.cell(2, 1, 0, 1));
        checks.is("the way 12 goes on in", 2, () -> y.cell(2, 1, 0, 2));
        y.amend(1, 0, 0, 0, -1, 3);
        checks.is("a CHILD's table is its own", 1, () -> y.cell(0, 0, 0, 0));
    }

    private void childWays() {
        Haltingale none = Tables.of("--- 0RZ  --- ---  --- ---");
        checks.is("no NEXT of a STATE: STATES 0 and 1", 9, () -> none.ofMachine(0, 5));
        checks.badArgument("child(0, 9)", () -> none.child(0, 9));
        checks.is("child(0, 8)", 1, () -> none.child(0, 8));
        Haltingale most = Tables.of("--- 0RC  --- ---  --- ---");
        checks.is("the greatest STATE is a NEXT: no one more", 13, () -> most.ofMachine(0, 5));
        checks.badArgument("child(0, 13)", () -> most.child(0, 13));
        checks.is("child(0, 12)", 1, () -> most.child(0, 12));
        Haltingale far = Tables.of("--- ---  --- ---  --- 0RC  --- ---");
        checks.is("a NEXT of a CELL that is never met counts", 17, () -> far.ofMachine(0, 5));
    }

    private void childRefuses() {
        Haltingale x = Tables.of("1RB ---  --- ---", "1RZ ---  --- ---", "1RA ---  --- ---");
        checks.refuses(x, INDEX, "child(3, 0)", () -> x.child(3, 0));
        checks.refuses(x, INDEX, "child(-1, 0)", () -> x.child(-1, 0));
        checks.refuses(x, INDEX, "no machine goes ahead of no way", () -> x.child(3, -1));
        checks.refuses(x, ARGUMENT, "child(0, -1)", () -> x.child(0, -1));
        checks.refuses(x, ARGUMENT, "child(0, 9)", () -> x.child(0, 9));
        checks.refuses(x, ARGUMENT, "child(0, MAX)", () -> x.child(0, Integer.MAX_VALUE));
        checks.refuses(x, ARGUMENT, "child of one that STOPS", () -> x.child(1, 0));
        checks.refuses(x, ARGUMENT, "child of one that goes on", () -> x.child(2, 0));
        for (int i = 3; i < 12; i++) {
            x.machine(2);
        }
        checks.refuses(x, STATE, "child(0, 8) of 12", () -> x.child(0, 8));
        checks.refuses(x, ARGUMENT, "no way goes ahead of 12", () -> x.child(0, 9));
        checks.refuses(x, ARGUMENT, "not HANGING goes ahead of 12", () -> x.child(1, 0));
        checks.refuses(x, INDEX, "no machine goes ahead of 12", () -> x.child(12, 0));
    }

    private void tag() {
        Haltingale x = new Haltingale();
        for (int cut : new int[] {0, 4, -1, Integer.MAX_VALUE}) {
            checks.refuses(x, ARGUMENT, "tag of the CUT " + cut, () -> x.tag(cut, 1, 1));
        }
        for (int word : new int[] {0, 64, -1, Integer.MIN_VALUE}) {
            checks.refuses(x, ARGUMENT, "tag with the word " + word + " of 0", () -> x.tag(1, word, 1));
            checks.refuses(x, ARGUMENT, "tag with the word " + word + " of 1", () -> x.tag(1, 1, word));
        }
        checks.is("tag", 0, () -> x.tag(1, 1, 63));
        checks.is("tag", 1, () -> x.tag(3, 63, 1));
        checks.is("tag", 2, () -> x.tag(2, 2, 3));
        checks.is("tag", 3, () -> x.tag(2, 2, 3));
        checks.is("many(6)", 4, () -> x.many(6));
        checks.refuses(x, STATE, "tag of 4", () -> x.tag(1, 1, 1));
        checks.refuses(x, ARGUMENT, "a wrong CUT goes ahead of 4", () -> x.tag(4, 1, 1));
        checks.refuses(x, ARGUMENT, "a wrong word goes ahead of 4", () -> x.tag(1, 1, 64));
    }
}
