/** The least and the greatest number that each call allows, and the first ones beyond on either side. */
public final class LimitsTest {
    private interface OfMachine {
        Object on(Haltingale x, int machine);
    }

    private interface OfCell {
        Object on(Haltingale x, int machine, int state, int symbol);
    }

    private interface Writing {
        Object on(Haltingale x, int machine, int state, int symbol, int write, int move, int next);
    }

    private final Checks checks = new Checks("LimitsTest");
    private final Edges empty = new Edges(checks, LimitsTest::emptyMachines);
    private final Edges told = new Edges(checks, LimitsTest::toldMachines);

    public static void main(String[] args) {
        LimitsTest test = new LimitsTest();
        test.noMachines();
        test.machine();
        test.tell();
        test.amend();
        test.childOfWhat();
        test.childInHowManyWays();
        test.tag();
        test.proveWhat();
        test.proveByWhat();
        test.doubt();
        test.decide();
        test.cell();
        test.ofMachine();
        test.at();
        test.symbol();
        test.lean();
        test.meets();
        test.likeness();
        test.champion();
        test.taggedWhat();
        test.tagged();
        test.many();
        test.cycleIn();
        test.backInAndGramIn();
        test.checks.end();
    }

    /** Machines of 2, 3 and 4 STATES, each of which HANGS at once. */
    private static Haltingale emptyMachines() {
        Haltingale x = new Haltingale();
        x.machine(2);
        x.machine(3);
        x.machine(4);
        x.tag(2, 11, 6);
        return x;
    }

    /** Machines of 2, 3 and 4 STATES without an EMPTY CELL, DECIDED by STOP, BACK and CYCLE. */
    private static Haltingale toldMachines() {
        Haltingale x = Tables.of("1RB 1LB  1LA 1RZ", "0RB 1LA  1LA 1RB  0RC 1LC", "1RB 1RA  0RA 0LD  1LA 1LB  1RC 0LZ");
        x.prove(0, 0, 6, 0);
        x.prove(1, 2, 1, 0);
        x.prove(2, 1, 0, 2);
        x.tag(2, 11, 6);
        return x;
    }

    /** "if there is no such machine": -1 and as many as there are, and the number 0 if there are none. */
    private void ofMachine(String name, Edges edges, OfMachine call) {
        edges.range(name + " of machine", Edges.INDEX, 0, 2, call::on);
        Edges none = new Edges(checks, Haltingale::new);
        none.refuses(name + " of machine 0 of none", Edges.INDEX, x -> call.on(x, 0));
        Edges all = new Edges(checks, LimitsTest::twelveMachines);
        all.refuses(name + " of machine 12 of 12", Edges.INDEX, x -> call.on(x, 12));
        all.refuses(name + " of machine 13 of 12", Edges.INDEX, x -> call.on(x, 13));
    }

    private static Haltingale twelveMachines() {
        Haltingale x = new Haltingale();
        for (int i = 0; i < 12; i++) {
            x.machine(2);
        }
        return x;
    }

    /** "if there is no such machine, or STATE of it, or symbol is not 0 or 1", with 2, 3 and 4 STATES. */
    private void ofCell(String name, Edges edges, OfCell call) {
        ofMachine(name, edges, (x, machine) -> call.on(x, machine, 0, 0));
        for (int i = 0; i <= 2; i++) {
            int machine = i;
            edges.range(name + " of machine " + i + ", STATE", Edges.INDEX, 0, i + 1,
                    (x, state) -> call.on(x, machine, state, 1));
            edges.range(name + " of machine " + i + ", SYMBOL", Edges.INDEX, 0, 1,
                    (x, symbol) -> call.on(x, machine, machine + 1, symbol));
        }
    }

    /** "if write is not 0 or 1, move not 1 or -1, or next not 0 to the number of STATES", too. */
    private void writing(String name, Edges edges, Writing call) {
        ofCell(name, edges, (x, machine, state, symbol) -> call.on(x, machine, state, symbol, 1, 1, 0));
        edges.range(name + " WRITES", Edges.ARGUMENT, 0, 1, (x, write) -> call.on(x, 1, 2, 1, write, 1, 0));
        edges.range(name + " MOVES", Edges.ARGUMENT, -1, 1, (x, move) -> call.on(x, 1, 2, 1, 1, move, 0));
        edges.refuses(name + " MOVES 0", Edges.ARGUMENT, x -> call.on(x, 1, 2, 1, 1, 0, 0));
        for (int i = 0; i <= 2; i++) {
            int machine = i;
            edges.range(name + " of machine " + i + ", NEXT", Edges.ARGUMENT, 0, i + 2,
                    (x, next) -> call.on(x, machine, 1, 0, 0, -1, next));
        }
    }

    private void noMachines() {
        Edges none = new Edges(checks, Haltingale::new);
        none.refuses("likeness(0, 0) of none", Edges.INDEX, x -> x.likeness(0, 0));
        none.refuses("tagged of TAG 0 of none", Edges.INDEX, x -> x.tagged(0, 1, 0));
    }

    private void machine() {
        empty.range("machine", Edges.ARGUMENT, 2, 4, (x, states) -> x.machine(states));
    }

    private void tell() {
        writing("tell", empty, (x, machine, state, symbol, write, move, next)
                -> x.tell(machine, state, symbol, write, move, next));
    }

    private void amend() {
        writing("amend", told, (x, machine, state, symbol, write, move, next)
                -> x.amend(machine, state, symbol, write, move, next));
    }

    private void childOfWhat() {
        ofMachine("child", empty, (x, machine) -> x.child(machine, 0));
    }

    private void ways(String table, int ways) {
        Edges edges = new Edges(checks, () -> Tables.of(table));
        edges.range("child of " + table + ", way", Edges.ARGUMENT, 0, ways - 1, (x, way) -> x.child(0, way));
        checks.is("how many ways " + table + " has", ways, () -> Tables.of(table).ofMachine(0, 5));
    }

    /** "up to the greatest one that is a NEXT of any CELL by now (0 if none is) and 1 more, if there is such a one". */
    private void childInHowManyWays() {
        ways("--- ---  --- ---", 9);
        ways("--- 0RZ  --- ---", 9);
        ways("--- 0RA  --- ---", 9);
        ways("--- 0RB  --- ---", 9);
        ways("--- ---  --- ---  --- ---", 9);
        ways("--- 0RZ  --- ---  --- ---", 9);
        ways("--- 0RA  --- ---  --- ---", 9);
        ways("--- 0RB  --- ---  --- ---", 13);
        ways("--- 0RC  --- ---  --- ---", 13);
        ways("--- ---  --- ---  --- ---  --- ---", 9);
        ways("--- 0RZ  --- ---  --- ---  --- ---", 9);
        ways("--- 0RB  --- ---  --- ---  --- ---", 13);
        ways("--- 0RC  --- ---  --- ---  --- ---", 17);
        ways("--- 0RD  --- ---  --- ---  --- ---", 17);
    }

    private void tag() {
        empty.range("tag, CUT", Edges.ARGUMENT, 1, 3, (x, cut) -> x.tag(cut, 1, 1));
        empty.range("tag, word of 0", Edges.ARGUMENT, 1, 63, (x, word) -> x.tag(1, word, 1));
        empty.range("tag, word of 1", Edges.ARGUMENT, 1, 63, (x, word) -> x.tag(1, 1, word));
    }

    private void proveWhat() {
        ofMachine("prove", empty, (x, machine) -> x.prove(machine, 0, 1, 0));
        empty.range("prove, KIND", Edges.ARGUMENT, 0, 3, (x, kind) -> x.prove(0, kind, 1, kind == 1 ? 1 : 0));
    }

    /** The numbers a and b "as section 2 says". */
    private void proveByWhat() {
        int[][] most = {{1, 500}, {0, 150}, {1, 6}, {1, 3}};
        for (int i = 0; i <= 3; i++) {
            int kind = i;
            int leastB = kind == 1 ? 1 : 0;
            int mostB = kind == 1 ? 150 : 0;
            empty.range("prove by " + kind + ", a", Edges.ARGUMENT, most[kind][0], most[kind][1],
                    (x, a) -> x.prove(0, kind, a, leastB));
            empty.range("prove by " + kind + ", b", Edges.ARGUMENT, leastB, mostB,
                    (x, b) -> x.prove(0, kind, 1, b));
            empty.range("prove by " + kind + ", b with the greatest a", Edges.ARGUMENT, leastB, mostB,
                    (x, b) -> x.prove(2, kind, most[kind][1], b));
        }
    }

    private void doubt() {
        told.range("doubt", Edges.ARGUMENT, 0, 3, (x, kind) -> x.doubt(kind));
    }

    private void decide() {
        ofMachine("decide", empty, (x, machine) -> x.decide(machine));
    }

    private void cell() {
        for (Edges edges : new Edges[] {told, empty}) {
            ofCell("cell", edges, (x, machine, state, symbol) -> x.cell(machine, state, symbol, 0));
            edges.range("cell, what", Edges.ARGUMENT, 0, 2, (x, what) -> x.cell(0, 0, 0, what));
        }
    }

    private void ofMachine() {
        ofMachine("ofMachine", told, (x, machine) -> x.ofMachine(machine, 0));
        told.range("ofMachine, what", Edges.ARGUMENT, 0, 8, (x, what) -> x.ofMachine(2, what));
    }

    private void at() {
        ofMachine("at", told, (x, machine) -> x.at(machine, 0, 0));
        told.range("at, STEPS", Edges.ARGUMENT, 0, 500, (x, steps) -> x.at(2, steps, 0));
        told.range("at, what", Edges.ARGUMENT, 0, 7, (x, what) -> x.at(2, 0, what));
    }

    private void symbol() {
        ofMachine("symbol", told, (x, machine) -> x.symbol(machine, 0, 0));
        told.range("symbol, STEPS", Edges.ARGUMENT, 0, 500, (x, steps) -> x.symbol(2, steps, 0));
        told.range("symbol, PLACE", Edges.ARGUMENT, -501, 501, (x, place) -> x.symbol(2, 0, place));
        told.range("symbol behind 500, PLACE", Edges.ARGUMENT, -501, 501, (x, place) -> x.symbol(2, 500, place));
    }

    private void lean() {
        ofMachine("lean", told, (x, machine) -> x.lean(machine, 0));
        told.range("lean, STEPS", Edges.ARGUMENT, 0, 500, (x, steps) -> x.lean(2, steps));
    }

    private void meets() {
        ofCell("meets", told, (x, machine, state, symbol) -> x.meets(machine, state, symbol, 0));
        told.range("meets, STEPS", Edges.ARGUMENT, 0, 500, (x, steps) -> x.meets(2, 3, 1, steps));
        told.range("meets at once, STEPS", Edges.ARGUMENT, 0, 500, (x, steps) -> x.meets(2, 0, 0, steps));
    }

    private void likeness() {
        ofMachine("likeness, one", told, (x, machine) -> x.likeness(machine, 0));
        ofMachine("likeness, other", told, (x, machine) -> x.likeness(0, machine));
        told.refuses("likeness, both", Edges.INDEX, x -> x.likeness(3, -1));
    }

    private void champion() {
        told.range("champion", Edges.ARGUMENT, 0, 1, (x, what) -> x.champion(what));
    }

    private void taggedWhat() {
        for (int i = 1; i <= 4; i++) {
            int tags = i;
            Edges edges = new Edges(checks, () -> withTags(tags));
            edges.range("tagged of TAG", Edges.INDEX, 0, tags - 1, (x, tag) -> x.tagged(tag, 37, 3));
        }
    }

    private static Haltingale withTags(int tags) {
        Haltingale x = new Haltingale();
        for (int i = 0; i < tags; i++) {
            x.tag(1 + i % 3, 11, 6);
        }
        return x;
    }

    private void tagged() {
        told.range("tagged, row", Edges.ARGUMENT, 1, 1023, (x, row) -> x.tagged(0, row, 0));
        told.range("tagged 200 times, row", Edges.ARGUMENT, 1, 1023, (x, row) -> x.tagged(0, row, 200));
        told.range("tagged, times", Edges.ARGUMENT, 0, 200, (x, steps) -> x.tagged(0, 37, steps));
        told.range("tagged of the empty row, times", Edges.ARGUMENT, 0, 200, (x, steps) -> x.tagged(0, 1, steps));
    }

    private void many() {
        told.range("many", Edges.ARGUMENT, 0, 10, (x, what) -> x.many(what));
    }

    private void cycleIn() {
        ofMachine("cycleIn", told, (x, machine) -> x.cycleIn(machine, 1));
        told.range("cycleIn, bound", Edges.ARGUMENT, 1, 40, (x, bound) -> x.cycleIn(2, bound));
    }

    private void backInAndGramIn() {
        ofMachine("backIn", told, (x, machine) -> x.backIn(machine));
        ofMachine("gramIn", told, (x, machine) -> x.gramIn(machine));
    }
}
