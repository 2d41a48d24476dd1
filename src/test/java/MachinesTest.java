/** Promises 1 to 6: a new object, machine, tell, amend, child, tag. */
public final class MachinesTest {
    private final Checks checks = new Checks("MachinesTest");

    public static void main(String[] args) {
        MachinesTest test = new MachinesTest();
        test.newObject();
        test.newObjectsAreApart();
        test.machine();
        test.tell();
        test.tellToTheLastCell();
        test.tellTakesBack();
        test.amend();
        test.childFillsTheCell();
        test.childInTheLastWay();
        test.childOfTheFirstAndOfTheLastStep();
        test.childIsTheLastMachine();
        test.tag();
        test.checks.end();
    }

    /** Checks what a CELL WRITES, its MOVE (0 to the left) and its NEXT. */
    private void holds(String what, Haltingale x, int machine, int state, int symbol, int... due) {
        for (int i = 0; i <= 2; i++) {
            int part = i;
            checks.is(what + ": cell " + i, due[i], () -> x.cell(machine, state, symbol, part));
        }
    }

    private void newObject() {
        Haltingale x = new Haltingale();
        for (int what = 0; what <= 10; what++) {
            int asked = what;
            checks.is("new: many(" + what + ")", 0, () -> x.many(asked));
        }
        checks.is("new: champion(0)", -1, () -> x.champion(0));
        checks.is("new: champion(1)", -1, () -> x.champion(1));
        checks.is("new: meanStop()", 0.0, () -> x.meanStop());
        for (int kind = 0; kind <= 3; kind++) {
            int doubted = kind;
            checks.is("new: doubt(" + kind + ")", 0, () -> x.doubt(doubted));
        }
    }

    private void newObjectsAreApart() {
        Haltingale x = new Haltingale();
        Haltingale other = Tables.of("1RZ ---  --- ---");
        other.tag(1, 1, 1);
        other.decide(0);
        other.prove(0 + other.machine(2), 0, 1, 0);
        for (int what = 0; what <= 10; what++) {
            int asked = what;
            checks.is("an object has nothing of another one: many(" + what + ")", 0, () -> x.many(asked));
        }
    }

    private void machine() {
        Haltingale x = new Haltingale();
        for (int i = 0; i < 12; i++) {
            int number = i;
            int states = 2 + i % 3;
            checks.is("machine() number " + i, i, () -> x.machine(states));
            checks.is("its STATES", states, () -> x.ofMachine(number, 0));
            checks.is("its CELLS that are EMPTY", 2 * states, () -> x.ofMachine(number, 1));
            checks.is("it is OPEN", -1, () -> x.ofMachine(number, 2));
            for (int cell = 0; cell < 2 * states; cell++) {
                holds("its CELL " + cell, x, i, cell / 2, cell % 2, -1, -1, -1);
            }
        }
        checks.is("many(0)", 12, () -> x.many(0));
        checks.is("many(10)", 4 * (4 + 6 + 8), () -> x.many(10));
    }

    private void tell() {
        Haltingale x = new Haltingale();
        x.machine(2);
        x.machine(3);
        checks.is("tell", 3, () -> x.tell(0, 0, 0, 1, -1, 2));
        checks.is("tell", 2, () -> x.tell(0, 1, 1, 0, 1, 0));
        holds("the first one", x, 0, 0, 0, 1, 0, 2);
        holds("the last one", x, 0, 1, 1, 0, 1, 0);
        holds("a CELL between", x, 0, 0, 1, -1, -1, -1);
        checks.is("tell of another machine", 5, () -> x.tell(1, 2, 1, 1, 1, 3));
        checks.is("the first machine has as many", 2, () -> x.ofMachine(0, 1));
    }

    /** "how many CELLS of it are EMPTY then": down to 0, with each filling that there is. */
    private void tellToTheLastCell() {
        for (int states = 2; states <= 4; states++) {
            Haltingale x = new Haltingale();
            x.machine(states);
            for (int i = 0; i < 2 * states; i++) {
                int cell = i;
                int write = i % 2;
                int move = i % 4 < 2 ? 1 : -1;
                int next = i % (states + 1);
                checks.is("the CELL " + i + " of " + 2 * states, 2 * states - 1 - i,
                        () -> x.tell(0, cell / 2, cell % 2, write, move, next));
                holds("the CELL " + i, x, 0, i / 2, i % 2, write, move == 1 ? 1 : 0, next);
            }
            checks.is("many(10) of none", 0, () -> x.many(10));
        }
    }

    private void tellTakesBack() {
        Haltingale x = Tables.of("1RZ ---  --- ---");
        checks.is("prove", true, () -> x.prove(0, 0, 1, 0));
        checks.is("tell of a DECIDED machine", 2, () -> x.tell(0, 1, 1, 1, 1, 0));
        checks.is("it is OPEN then", -1, () -> x.ofMachine(0, 2));
        checks.is("its a is NONE", -1, () -> x.ofMachine(0, 3));
        checks.is("its b is NONE", -1, () -> x.ofMachine(0, 4));
        checks.is("many(9)", 1, () -> x.many(9));
        checks.is("tell of an OPEN machine", 1, () -> x.tell(0, 1, 0, 1, 1, 0));
        checks.is("many(9) stays", 1, () -> x.many(9));
    }

    private void amend() {
        Haltingale x = Tables.of("1RZ 1LB  --- ---", "1RZ ---  --- ---");
        checks.is("amend of an OPEN machine", false, () -> x.amend(0, 0, 1, 0, 1, 2));
        holds("it", x, 0, 0, 1, 0, 1, 2);
        checks.is("its CELLS that are EMPTY", 2, () -> x.ofMachine(0, 1));
        checks.is("many(9)", 0, () -> x.many(9));
        x.decide(0);
        x.decide(1);
        checks.is("amend of a DECIDED machine", true, () -> x.amend(0, 0, 0, 1, -1, 0));
        holds("it", x, 0, 0, 0, 1, 0, 0);
        checks.is("it is OPEN then", -1, () -> x.ofMachine(0, 2));
        checks.is("amend of it again", false, () -> x.amend(0, 0, 0, 1, 1, 2));
        checks.is("the other one is DECIDED", 0, () -> x.ofMachine(1, 2));
        checks.is("many(9)", 1, () -> x.many(9));
        checks.is("amend to the same, DECIDED", true, () -> x.amend(1, 0, 0, 1, 1, 2));
        checks.is("it is OPEN, too", -1, () -> x.ofMachine(1, 2));
        checks.is("many(9)", 2, () -> x.many(9));
    }

    private void childFillsTheCell() {
        // It HANGS in the STATE 1 at a 0 behind its first STEP; the greatest NEXT is 1, so that 2 can be next.
        int[][] due = {
            {1, 1, 4},
            {1, 1, 0}, {0, 1, 0}, {1, 0, 0}, {0, 0, 0},
            {1, 1, 1}, {0, 1, 1}, {1, 0, 1}, {0, 0, 1},
            {1, 1, 2}, {0, 1, 2}, {1, 0, 2}, {0, 0, 2}};
        for (int way = 0; way < due.length; way++) {
            Haltingale x = Tables.of("1RB ---  --- 0LZ  --- ---  --- ---");
            int asked = way;
            checks.is("child(0, " + way + ")", 1, () -> x.child(0, asked));
            holds("the CELL of the way " + way, x, 1, 1, 0, due[way]);
            holds("the rest is the same: STATE 0", x, 1, 0, 0, 1, 1, 1);
            holds("the rest is the same: STATE 1", x, 1, 1, 1, 0, 0, 4);
            checks.is("the rest is the same: STATES", 4, () -> x.ofMachine(1, 0));
            checks.is("the rest is the same: EMPTY", 5, () -> x.ofMachine(1, 1));
            checks.is("it does a STEP more, and where to", due[way][1] == 1 ? 2 : 0, () -> x.at(1, 2, 2));
            checks.is("a CHILD is OPEN", -1, () -> x.ofMachine(1, 2));
            holds("the parent's CELL", x, 0, 1, 0, -1, -1, -1);
            checks.is("the parent's CELLS that are EMPTY", 6, () -> x.ofMachine(0, 1));
            x.amend(1, 0, 0, 0, -1, 3);
            holds("a CHILD's table is its own", x, 0, 0, 0, 1, 1, 1);
        }
    }

    private void lastWay(String table, int way, int next) {
        Haltingale x = Tables.of(table);
        x.child(0, way);
        holds("the way " + way + " of " + table, x, 1, 0, 0, 0, 0, next);
        x.child(0, 0);
        holds("the way 0 of " + table, x, 2, 0, 0, 1, 1, x.ofMachine(0, 0));
    }

    /** The last way goes on in the greatest STATE that is a NEXT, and 1 more, if there is such a one. */
    private void childInTheLastWay() {
        lastWay("--- ---  --- ---", 8, 1);
        lastWay("--- 0RZ  --- ---", 8, 1);
        lastWay("--- 0RB  --- ---", 8, 1);
        lastWay("--- ---  --- ---  --- ---", 8, 1);
        lastWay("--- 0RZ  --- ---  --- ---", 8, 1);
        lastWay("--- 0RB  --- ---  --- ---", 12, 2);
        lastWay("--- 0RC  --- ---  --- ---", 12, 2);
        lastWay("--- 0RC  --- ---  --- ---  --- ---", 16, 3);
        lastWay("--- 0RD  --- ---  --- ---  --- ---", 16, 3);
        // A CELL counts that is never met, be it the last one.
        lastWay("--- ---  --- ---  --- ---  --- 0LC", 16, 3);
    }

    /** "The CELL that a machine meets, as it HANGS behind at most 500 STEPS": behind none, and behind 106 of them. */
    private void childOfTheFirstAndOfTheLastStep() {
        Haltingale x = Tables.of("--- ---  --- ---", "1RB 1LB  1LA 0LC  --- 1LD  1RD 0RA");
        checks.is("it does no STEP", 0, () -> x.at(0, 500, 0));
        checks.is("child(0, 0)", 2, () -> x.child(0, 0));
        checks.is("the CHILD STOPS with its STEP 1", 1, () -> x.ofMachine(2, 7));
        checks.is("it does 106 STEPS", 106, () -> x.at(1, 500, 0));
        checks.is("in how many ways it can go on", 17, () -> x.ofMachine(1, 5));
        checks.is("child(1, 0)", 3, () -> x.child(1, 0));
        holds("the CELL that it met", x, 3, 2, 0, 1, 1, 4);
        checks.is("the CHILD STOPS with its STEP 107", 107, () -> x.ofMachine(3, 7));
    }

    /** "A CHILD, as the last machine", of one ahead of it, of a CHILD, and up to the number 11. */
    private void childIsTheLastMachine() {
        Haltingale x = Tables.of("--- ---  --- ---  --- ---", "1RA ---  --- ---");
        x.decide(1);
        for (int i = 2; i < 12; i++) {
            int number = i;
            checks.is("a CHILD is the number " + i, i, () -> x.child(number % 2 == 0 ? 0 : number - 1, 5));
            checks.is("many(0)", i + 1, () -> x.many(0));
        }
        holds("a CHILD of the first one", x, 10, 0, 0, 1, 1, 1);
        holds("a CHILD of that", x, 11, 1, 0, 1, 1, 1);
        checks.is("the one that was DECIDED is", 1, () -> x.ofMachine(1, 2));
        checks.is("many(9)", 0, () -> x.many(9));
    }

    private void tag() {
        Haltingale x = new Haltingale();
        checks.is("tag", 0, () -> x.tag(1, 1, 63));
        checks.is("tag", 1, () -> x.tag(3, 63, 1));
        checks.is("tag", 2, () -> x.tag(2, 2, 3));
        checks.is("tag, the same again", 3, () -> x.tag(2, 2, 3));
        checks.is("many(6)", 4, () -> x.many(6));
        checks.is("many(0)", 0, () -> x.many(0));
    }
}
