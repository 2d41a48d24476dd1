/**
 * A menagerie of the least machines.
 *
 * <p>Words in capitals are the document's own terms. Every row that a call works on is made once, with
 * the object, so that calls make nothing but new machines and TAGS.
 */
public final class Haltingale {
    private static final int NONE = -1;

    private static final int MOST_MACHINES = 12;
    private static final int LEAST_STATES = 2;
    private static final int MOST_STATES = 4;
    private static final int MOST_CELLS = 2 * MOST_STATES;
    private static final int MOST_STEPS = 500;
    private static final int FARTHEST = MOST_STEPS + 1;

    private static final int STOP = 0;
    private static final int CYCLE = 1;
    private static final int BACK = 2;
    private static final int GRAM = 3;
    private static final int MOST_CYCLE = 150;
    private static final int CYCLE_CODE = 200;
    private static final int MOST_BOUND = 40;
    private static final int DECIDING_BOUND = 30;
    private static final int MOST_DEPTH = 6;
    private static final int MOST_ROWS = 24;
    private static final int MOST_WIDTH = 3;
    private static final int GRAM_ROWS = 1 << MOST_WIDTH;
    private static final int GRAM_WINDOWS = MOST_CELLS * GRAM_ROWS * GRAM_ROWS;
    private static final int MOST_PASSES = 1_000_000;

    private static final int MOST_TAGS = 4;
    private static final int MOST_CUT = 3;
    private static final int MOST_WORD = 63;
    private static final int MOST_TAG_ROW = 1023;
    private static final int MOST_TAG_STEPS = 200;
    private static final int MOST_TAG_LENGTH = 20;

    private final Machine[] machines;
    private final Tag[] tags;
    private final Walk walk;
    private final Cycles cycles;
    private final Back back;
    private final Gram gram;
    private int machineCount;
    private int tagCount;
    private int givenCount;
    private int takenCount;
    private int takenBackCount;

    /** Creates a menagerie without machines. */
    public Haltingale() {
        machines = new Machine[MOST_MACHINES];
        tags = new Tag[MOST_TAGS];
        walk = new Walk();
        cycles = new Cycles();
        back = new Back();
        gram = new Gram();
    }

    // ---- machines.

    /** Tells a machine with all CELLS EMPTY; returns its number. */
    public int machine(int states) throws IllegalArgumentException, IllegalStateException {
        require(isWithin(states, LEAST_STATES, MOST_STATES));
        requireRoomForMachine();
        return append(new Machine(states));
    }

    /** Tells a CELL that is EMPTY; returns how many CELLS of the machine are EMPTY then. */
    public int tell(int machine, int state, int symbol, int write, int move, int next)
            throws IndexOutOfBoundsException, IllegalArgumentException, IllegalStateException {
        Machine found = find(machine);
        int cell = findCell(found, state, symbol);
        require(isFilling(found, write, move, next));
        if (!found.isEmpty(cell)) {
            throw new IllegalStateException("this cell is not empty");
        }
        found.fill(cell, write, move, next);
        takeBack(found);
        return found.countEmpty();
    }

    /** AMENDS a CELL that is not EMPTY; returns whether the machine was DECIDED. */
    public boolean amend(int machine, int state, int symbol, int write, int move, int next)
            throws IndexOutOfBoundsException, IllegalArgumentException, IllegalStateException {
        Machine found = find(machine);
        int cell = findCell(found, state, symbol);
        require(isFilling(found, write, move, next));
        if (found.isEmpty(cell)) {
            throw new IllegalStateException("this cell is empty");
        }
        found.fill(cell, write, move, next);
        return takeBack(found);
    }

    /** Adds a CHILD as the last machine; returns its number. */
    public int child(int machine, int way)
            throws IndexOutOfBoundsException, IllegalArgumentException, IllegalStateException {
        Machine parent = find(machine);
        // A machine that does not HANG has no way at all, so that this is its refusal, too; and one that
        // does leaves the walk at the CELL that is to be filled.
        require(isWithin(way, 0, countWays(parent) - 1));
        requireRoomForMachine();
        Machine grown = new Machine(parent.states);
        grown.copy(parent);
        grown.fillByWay(walk.metCell(), way);
        return append(grown);
    }

    /** Tells a TAG; returns its number. */
    public int tag(int cut, int zero, int one) throws IllegalArgumentException, IllegalStateException {
        require(isWithin(cut, 1, MOST_CUT));
        require(isWithin(zero, 1, MOST_WORD) && isWithin(one, 1, MOST_WORD));
        if (tagCount < 0 || tagCount >= MOST_TAGS) {
            throw new IllegalStateException("there is no room for a tag");
        }
        tags[tagCount] = new Tag(cut, zero, one);
        tagCount++;
        return tagCount - 1;
    }

    // ---- proofs.

    /** Gives a CERTIFICATE; returns whether it is taken. */
    public boolean prove(int machine, int kind, int a, int b)
            throws IndexOutOfBoundsException, IllegalArgumentException, IllegalStateException {
        Machine found = find(machine);
        require(isCertificate(kind, a, b));
        requireOpen(found);
        givenCount++;
        if (!isTaken(found, kind, a, b)) {
            return false;
        }
        takenCount++;
        found.settle(kind, a, b);
        return true;
    }

    /** DOUBTS a KIND: all that are DECIDED by it are OPEN; returns how many these are. */
    public int doubt(int kind) throws IllegalArgumentException {
        require(isWithin(kind, STOP, GRAM));
        int count = 0;
        for (int i = 0; i < machineCount; i++) {
            Machine found = find(i);
            if (found.kind == kind) {
                takeBack(found);
                count++;
            }
        }
        return count;
    }

    /** Looks for a CERTIFICATE, and gives it; returns the KIND of the first one, NONE without any. */
    public int decide(int machine) throws IndexOutOfBoundsException, IllegalStateException {
        Machine found = find(machine);
        requireOpen(found);
        walk.run(found, MOST_STEPS);
        if (walk.hasStopped(found)) {
            return decideBy(found, STOP, walk.done, 0);
        }
        int code = cycles.smallestCode(found, DECIDING_BOUND);
        if (code != NONE) {
            return decideBy(found, CYCLE, code / CYCLE_CODE, code % CYCLE_CODE);
        }
        int depth = smallestBack(found);
        if (depth != NONE) {
            return decideBy(found, BACK, depth, 0);
        }
        int width = gram.smallestWidth(found);
        if (width != NONE) {
            return decideBy(found, GRAM, width, 0);
        }
        return NONE;
    }

    // ---- what is asked.

    /** What a CELL WRITES (0), its MOVE (1, a MOVE of -1 told as 0) or its NEXT (2); NONE if it is EMPTY. */
    public int cell(int machine, int state, int symbol, int what)
            throws IndexOutOfBoundsException, IllegalArgumentException {
        Machine found = find(machine);
        int cell = findCell(found, state, symbol);
        require(isWithin(what, 0, 2));
        if (found.isEmpty(cell)) {
            return NONE;
        }
        switch (what) {
            case 0:
                return found.writeOf(cell);
            case 1:
                return Math.max(found.moveOf(cell), 0);
            default:
                return found.nextOf(cell);
        }
    }

    /** What is known of a machine: its table, its proof, its ways, and how it STOPS. */
    public int ofMachine(int machine, int what) throws IndexOutOfBoundsException, IllegalArgumentException {
        Machine found = find(machine);
        require(isWithin(what, 0, 8));
        switch (what) {
            case 0:
                return found.states;
            case 1:
                return found.countEmpty();
            case 2:
                return found.kind;
            case 3:
                return found.a;
            case 4:
                return found.b;
            case 5:
                return countWays(found);
            default:
                return asItStops(found, what);
        }
    }

    /** How a machine stands behind so many STEPS. */
    public int at(int machine, int steps, int what) throws IndexOutOfBoundsException, IllegalArgumentException {
        Machine found = find(machine);
        require(isWithin(steps, 0, MOST_STEPS));
        require(isWithin(what, 0, 7));
        walk.run(found, steps);
        switch (what) {
            case 0:
                return walk.done;
            case 1:
                return walk.state;
            case 2:
                return walk.place;
            case 3:
                return walk.countOnes();
            case 4:
                return walk.countRuns();
            case 5:
                return walk.least;
            case 6:
                return walk.greatest;
            default:
                return walk.eighths();
        }
    }

    /** The SYMBOL at a PLACE behind so many STEPS. */
    public int symbol(int machine, int steps, int place)
            throws IndexOutOfBoundsException, IllegalArgumentException {
        Machine found = find(machine);
        require(isWithin(steps, 0, MOST_STEPS));
        require(isWithin(place, -FARTHEST, FARTHEST));
        walk.run(found, steps);
        return walk.read(place);
    }

    /** How a machine leans: PLACE divided by STEPS, as the nearest quarter. */
    public double lean(int machine, int steps) throws IndexOutOfBoundsException, IllegalArgumentException {
        Machine found = find(machine);
        require(isWithin(steps, 0, MOST_STEPS));
        walk.run(found, steps);
        return (double) nearestQuotient(4 * walk.place, walk.done) / 4.0;
    }

    /** Behind how many STEPS a STATE and a SYMBOL are met first; NONE if they are not. */
    public int meets(int machine, int state, int symbol, int steps)
            throws IndexOutOfBoundsException, IllegalArgumentException {
        Machine found = find(machine);
        int cell = findCell(found, state, symbol);
        require(isWithin(steps, 0, MOST_STEPS));
        walk.begin();
        for (int done = 0; done <= steps; done++) {
            if (walk.metCell() == cell) {
                return done;
            }
            if (!walk.step(found)) {
                return NONE;
            }
        }
        return NONE;
    }

    /** 1 if two tables are the same, 2 if they are with all MOVES of one turned round, otherwise 0. */
    public int likeness(int one, int other) throws IndexOutOfBoundsException {
        Machine first = find(one);
        Machine second = find(other);
        if (first.isLike(second, 1)) {
            return 1;
        }
        return first.isLike(second, -1) ? 2 : 0;
    }

    /** The machine DECIDED by STOP with the greatest score (0) or last STEP (1); NONE without one. */
    public int champion(int what) throws IllegalArgumentException {
        require(isWithin(what, 0, 1));
        int best = NONE;
        int greatest = NONE;
        for (int i = 0; i < machineCount; i++) {
            Machine found = find(i);
            if (found.kind == STOP) {
                int reached = asItStops(found, what == 0 ? 6 : 7);
                if (reached > greatest) {
                    greatest = reached;
                    best = i;
                }
            }
        }
        return best;
    }

    /** The row behind so many times; NONE if it has more than 20 SYMBOLS behind any of these. */
    public int tagged(int tag, int row, int steps) throws IndexOutOfBoundsException, IllegalArgumentException {
        Tag found = findTag(tag);
        require(isWithin(row, 1, MOST_TAG_ROW));
        require(isWithin(steps, 0, MOST_TAG_STEPS));
        int now = row;
        for (int i = 0; i < steps; i++) {
            now = found.goOn(now);
            if (Tag.lengthOf(now) > MOST_TAG_LENGTH) {
                return NONE;
            }
        }
        return now;
    }

    /** How many there are of what is counted. */
    public int many(int what) throws IllegalArgumentException {
        require(isWithin(what, 0, 10));
        switch (what) {
            case 0:
                return machineCount;
            case 1:
                return countOfKind(NONE);
            case 6:
                return tagCount;
            case 7:
                return givenCount;
            case 8:
                return takenCount;
            case 9:
                return takenBackCount;
            case 10:
                return countEmptyCells();
            default:
                return countOfKind(what - 2);
        }
    }

    /** The mean last STEP of all machines that are DECIDED by STOP, not cut; 0 without any. */
    public double meanStop() {
        int sum = 0;
        int count = 0;
        for (int i = 0; i < machineCount; i++) {
            Machine found = find(i);
            if (found.kind == STOP) {
                sum += found.a;
                count++;
            }
        }
        return count == 0 ? 0.0 : (double) sum / (double) count;
    }

    // ---- what could be proved (nothing is changed; of a machine that is DECIDED, too).

    /** 200 times a, and b, of the smallest CERTIFICATE of CYCLE; NONE without one. */
    public int cycleIn(int machine, int bound) throws IndexOutOfBoundsException, IllegalArgumentException {
        Machine found = find(machine);
        require(isWithin(bound, 1, MOST_BOUND));
        return cycles.smallestCode(found, bound);
    }

    /** The smallest a of a CERTIFICATE of BACK; NONE without one. */
    public int backIn(int machine) throws IndexOutOfBoundsException {
        return smallestBack(find(machine));
    }

    /** The smallest a of a CERTIFICATE of GRAM; NONE without one. */
    public int gramIn(int machine) throws IndexOutOfBoundsException {
        return gram.smallestWidth(find(machine));
    }

    /** A checksum of all that can be asked. */
    public long digest() {
        long d = 58237;
        for (int what = 0; what <= 10; what++) {
            d = d * 31 + many(what);
        }
        for (int i = 0; i < machineCount; i++) {
            d = digestTable(d, i);
            d = digestRuns(d, i);
        }
        for (int i = 0; i < tagCount; i++) {
            d = d * 31 + tagged(i, 10, 9);
        }
        d = d * 31 + champion(0);
        return d * 31 + champion(1);
    }

    private long digestTable(long start, int machine) {
        long d = start;
        for (int what = 0; what <= 8; what++) {
            d = d * 31 + ofMachine(machine, what);
        }
        int states = find(machine).states;
        for (int state = 0; state < states; state++) {
            for (int symbol = 0; symbol <= 1; symbol++) {
                for (int what = 0; what <= 2; what++) {
                    d = d * 31 + cell(machine, state, symbol, what);
                }
            }
        }
        return d;
    }

    private long digestRuns(long start, int machine) {
        long d = start;
        for (int what = 0; what <= 7; what++) {
            d = d * 31 + at(machine, 40, what);
        }
        Machine found = find(machine);
        d = d * 31 + cycles.smallestCode(found, 8);
        return d * 31 + smallestBack(found);
    }

    private static boolean isWithin(int number, int least, int greatest) {
        return number >= least && number <= greatest;
    }

    private static void require(boolean holds) {
        if (!holds) {
            throw new IllegalArgumentException("a number is out of its range");
        }
    }

    private static void requireOpen(Machine found) {
        if (found.kind != NONE) {
            throw new IllegalStateException("this machine is decided");
        }
    }

    private void requireRoomForMachine() {
        if (machineCount < 0 || machineCount >= MOST_MACHINES) {
            throw new IllegalStateException("there is no room for a machine");
        }
    }

    private Machine find(int number) {
        if (number < 0 || number >= machineCount || number >= MOST_MACHINES) {
            throw new IndexOutOfBoundsException("there is no such machine");
        }
        Machine found = machines[number];
        if (found == null) {
            throw new IndexOutOfBoundsException("there is no such machine");
        }
        return found;
    }

    private static int findCell(Machine found, int state, int symbol) {
        if (!isWithin(state, 0, found.states - 1) || !isWithin(symbol, 0, 1)) {
            throw new IndexOutOfBoundsException("there is no such cell");
        }
        return 2 * state + symbol;
    }

    private Tag findTag(int number) {
        if (number < 0 || number >= tagCount || number >= MOST_TAGS) {
            throw new IndexOutOfBoundsException("there is no such tag");
        }
        Tag found = tags[number];
        if (found == null) {
            throw new IndexOutOfBoundsException("there is no such tag");
        }
        return found;
    }

    private static boolean isFilling(Machine found, int write, int move, int next) {
        return isWithin(write, 0, 1) && (move == 1 || move == -1) && isWithin(next, 0, found.states);
    }

    private static boolean isCertificate(int kind, int a, int b) {
        switch (kind) {
            case STOP:
                return isWithin(a, 1, MOST_STEPS) && b == 0;
            case CYCLE:
                return isWithin(a, 0, MOST_CYCLE) && isWithin(b, 1, MOST_CYCLE);
            case BACK:
                return isWithin(a, 1, MOST_DEPTH) && b == 0;
            case GRAM:
                return isWithin(a, 1, MOST_WIDTH) && b == 0;
            default:
                return false;
        }
    }

    private int append(Machine made) {
        if (machineCount >= 0 && machineCount < MOST_MACHINES) {
            machines[machineCount] = made;
            machineCount++;
        }
        return machineCount - 1;
    }

    private boolean takeBack(Machine found) {
        if (found.kind == NONE) {
            return false;
        }
        found.settle(NONE, NONE, NONE);
        takenBackCount++;
        return true;
    }

    private static int decideBy(Machine found, int kind, int a, int b) {
        found.settle(kind, a, b);
        return kind;
    }

    private boolean isTaken(Machine found, int kind, int a, int b) {
        switch (kind) {
            case STOP:
                walk.run(found, a);
                return walk.done == a && walk.hasStopped(found);
            case CYCLE:
                return cycles.isCycle(found, a, b);
            case BACK:
                return isBack(found, a);
            default:
                return gram.isClosed(found, a);
        }
    }

    private boolean isBack(Machine found, int a) {
        int depth = back.emptyDepth(found);
        return depth != NONE && depth <= a && goesOnFor(found, a);
    }

    private int smallestBack(Machine found) {
        int depth = back.emptyDepth(found);
        return depth != NONE && goesOnFor(found, depth) ? depth : NONE;
    }

    private boolean goesOnFor(Machine found, int steps) {
        walk.run(found, steps);
        return walk.done == steps && !walk.hasStopped(found);
    }

    private int countWays(Machine found) {
        walk.run(found, MOST_STEPS);
        return walk.isHanging(found) ? found.countFillings() : 0;
    }

    /** What ofMachine tells as 6 (ONES), 7 (last STEP) and 8 (how far off), NONE if it does not STOP. */
    private int asItStops(Machine found, int what) {
        walk.run(found, MOST_STEPS);
        if (!walk.hasStopped(found)) {
            return NONE;
        }
        switch (what) {
            case 6:
                return walk.countOnes();
            case 7:
                return walk.done;
            default:
                return Math.abs(walk.place);
        }
    }

    private int countOfKind(int kind) {
        int count = 0;
        for (int i = 0; i < machineCount; i++) {
            if (find(i).kind == kind) {
                count++;
            }
        }
        return count;
    }

    private int countEmptyCells() {
        int count = 0;
        for (int i = 0; i < machineCount; i++) {
            count += find(i).countEmpty();
        }
        return count;
    }

    /** The whole number nearest to the quotient, of two as near the even one; 0 without a divisor. */
    private static int nearestQuotient(int dividend, int divisor) {
        if (divisor <= 0) {
            return 0;
        }
        int below = Math.floorDiv(dividend, divisor);
        int twiceRest = 2 * (dividend - below * divisor);
        boolean up = twiceRest > divisor || (twiceRest == divisor && (below & 1) == 1);
        return up ? below + 1 : below;
    }

    /** A table, and the proof by which it is DECIDED. CELLS are numbered 2 * STATE + SYMBOL. */
    private static final class Machine {
        final int states;
        final int[] writes;
        final int[] moves;
        final int[] nexts;
        int kind;
        int a;
        int b;

        Machine(int states) {
            this.states = states;
            writes = new int[MOST_CELLS];
            moves = new int[MOST_CELLS];
            nexts = new int[MOST_CELLS];
            for (int cell = 0; cell < MOST_CELLS; cell++) {
                writes[cell] = NONE;
            }
            kind = NONE;
            a = NONE;
            b = NONE;
        }

        void copy(Machine other) {
            for (int cell = 0; cell < MOST_CELLS; cell++) {
                writes[cell] = other.writes[cell];
                moves[cell] = other.moves[cell];
                nexts[cell] = other.nexts[cell];
            }
        }

        void settle(int byKind, int byA, int byB) {
            kind = byKind;
            a = byA;
            b = byB;
        }

        int writeOf(int cell) {
            return cell >= 0 && cell < MOST_CELLS ? writes[cell] : NONE;
        }

        int moveOf(int cell) {
            return cell >= 0 && cell < MOST_CELLS ? moves[cell] : 0;
        }

        int nextOf(int cell) {
            return cell >= 0 && cell < MOST_CELLS ? nexts[cell] : 0;
        }

        boolean isEmpty(int cell) {
            return cell < 0 || cell >= MOST_CELLS || writes[cell] == NONE;
        }

        /** Whether a machine goes no further from this CELL, as it is EMPTY or has a NEXT of STOP. */
        boolean isEnd(int cell) {
            return isEmpty(cell) || nextOf(cell) >= states;
        }

        void fill(int cell, int write, int move, int next) {
            if (cell >= 0 && cell < MOST_CELLS) {
                writes[cell] = write;
                moves[cell] = move;
                nexts[cell] = next;
            }
        }

        int countCells() {
            return 2 * states;
        }

        int countEmpty() {
            int count = 0;
            for (int cell = 0; cell < countCells(); cell++) {
                if (isEmpty(cell)) {
                    count++;
                }
            }
            return count;
        }

        int countFillings() {
            int greatest = 0;
            for (int cell = 0; cell < countCells(); cell++) {
                if (!isEnd(cell)) {
                    greatest = Math.max(greatest, nextOf(cell));
                }
            }
            int last = Math.min(greatest + 1, states - 1);
            return 1 + 4 * (last + 1);
        }

        void fillByWay(int cell, int way) {
            if (way <= 0) {
                fill(cell, 1, 1, states);
                return;
            }
            int turn = (way - 1) % 4;
            fill(cell, turn % 2 == 0 ? 1 : 0, turn < 2 ? 1 : -1, (way - 1) / 4);
        }

        boolean isLike(Machine other, int turn) {
            if (states != other.states) {
                return false;
            }
            for (int cell = 0; cell < countCells(); cell++) {
                // An EMPTY CELL has a MOVE of 0, which is the same turned round.
                if (writeOf(cell) != other.writeOf(cell)
                        || moveOf(cell) != turn * other.moveOf(cell)
                        || nextOf(cell) != other.nextOf(cell)) {
                    return false;
                }
            }
            return true;
        }
    }

    /** A machine's way over its tape, STEP by STEP from the beginning. */
    private static final class Walk {
        final int[] tape;
        int done;
        int state;
        int place;
        int least;
        int greatest;

        Walk() {
            tape = new int[2 * FARTHEST + 1];
        }

        void begin() {
            // Only what was VISITED can have a 1: the rest of the tape need not be wiped.
            for (int p = least; p <= greatest; p++) {
                put(p, 0);
            }
            done = 0;
            state = 0;
            place = 0;
            least = 0;
            greatest = 0;
        }

        void run(Machine machine, int steps) {
            begin();
            for (int i = 0; i < steps; i++) {
                if (!step(machine)) {
                    return;
                }
            }
        }

        /** Does a STEP; returns false, without one, if the machine HANGS or has STOPPED. */
        boolean step(Machine machine) {
            int cell = 2 * state + read(place);
            if (hasStopped(machine) || machine.isEmpty(cell)) {
                return false;
            }
            put(place, machine.writeOf(cell));
            place += machine.moveOf(cell);
            state = machine.nextOf(cell);
            least = Math.min(least, place);
            greatest = Math.max(greatest, place);
            done++;
            return true;
        }

        /** The CELL that is met; none of the machine's own once it has STOPPED. */
        int metCell() {
            return 2 * state + read(place);
        }

        boolean hasStopped(Machine machine) {
            return state >= machine.states;
        }

        boolean isHanging(Machine machine) {
            return !hasStopped(machine) && machine.isEmpty(metCell());
        }

        int read(int at) {
            return at >= -FARTHEST && at <= FARTHEST ? tape[at + FARTHEST] : 0;
        }

        void put(int at, int symbol) {
            if (at >= -FARTHEST && at <= FARTHEST) {
                tape[at + FARTHEST] = symbol;
            }
        }

        int countOnes() {
            int count = 0;
            for (int p = least; p <= greatest; p++) {
                count += read(p);
            }
            return count;
        }

        int countRuns() {
            int count = 1;
            for (int p = least + 1; p <= greatest; p++) {
                if (read(p) != read(p - 1)) {
                    count++;
                }
            }
            return count;
        }

        int eighths() {
            int visited = greatest - least + 1;
            return visited > 0 ? 8 * countOnes() / visited : 0;
        }
    }

    /** The check of CYCLE: one walk stays behind a STEPS, another goes on from there. */
    private static final class Cycles {
        final Walk early;
        final Walk late;
        int least;
        int greatest;

        Cycles() {
            early = new Walk();
            late = new Walk();
        }

        boolean isCycle(Machine machine, int a, int b) {
            if (!standBehind(machine, a)) {
                return false;
            }
            for (int i = 0; i < b; i++) {
                if (!goFurther(machine)) {
                    return false;
                }
            }
            return repeats();
        }

        int smallestCode(Machine machine, int bound) {
            int best = NONE;
            int most = bound;
            for (int a = 0; a < bound && a < most; a++) {
                if (!standBehind(machine, a)) {
                    return best;
                }
                for (int b = 1; b <= bound && a + b <= most; b++) {
                    if (!goFurther(machine)) {
                        break;
                    }
                    if (repeats()) {
                        best = CYCLE_CODE * a + b;
                        // A greater a is only better with a smaller sum.
                        most = a + b - 1;
                    }
                }
            }
            return best;
        }

        boolean standBehind(Machine machine, int a) {
            early.run(machine, a);
            late.run(machine, a);
            least = late.place;
            greatest = late.place;
            return late.done == a;
        }

        boolean goFurther(Machine machine) {
            if (!late.step(machine)) {
                return false;
            }
            least = Math.min(least, late.place);
            greatest = Math.max(greatest, late.place);
            return true;
        }

        boolean repeats() {
            if (early.state != late.state) {
                return false;
            }
            int shift = late.place - early.place;
            // Beyond what was VISITED both tapes are 0, however they are shifted outwards.
            int from = shift > 0 ? least : late.least;
            int to = shift < 0 ? greatest : late.greatest;
            for (int p = from; p <= to; p++) {
                if (early.read(p) != late.read(p + shift)) {
                    return false;
                }
            }
            return true;
        }
    }

    /** ROWS of one depth of BACK: of the SYMBOLS at the PLACES -6 to 6, which are known, and which are 1. */
    private static final class Rows {
        final int[] states;
        final int[] places;
        final int[] known;
        final int[] ones;
        int count;

        Rows() {
            states = new int[MOST_ROWS];
            places = new int[MOST_ROWS];
            known = new int[MOST_ROWS];
            ones = new int[MOST_ROWS];
        }

        /** Adds a ROW like one with the bits knownBefore and onesBefore, but for its SYMBOL there. */
        boolean add(int cell, int place, int knownBefore, int onesBefore) {
            if (count < 0 || count >= MOST_ROWS) {
                return false;
            }
            int bit = bitOf(place);
            states[count] = cell / 2;
            places[count] = place;
            known[count] = knownBefore | bit;
            ones[count] = cell % 2 == 1 ? onesBefore | bit : onesBefore & ~bit;
            count++;
            return true;
        }

        static int bitOf(int place) {
            return 1 << (place + MOST_DEPTH);
        }
    }

    /** The check of BACK: from all ends, STEP by STEP towards what can be ahead of them. */
    private static final class Back {
        Rows rows;
        Rows spare;

        Back() {
            rows = new Rows();
            spare = new Rows();
        }

        /** The least depth, 1 to 6, without a ROW; NONE if there is none, or too many ROWS are ahead of it. */
        int emptyDepth(Machine machine) {
            takeEnds(machine);
            for (int depth = 1; depth <= MOST_DEPTH; depth++) {
                if (!goBack(machine)) {
                    return NONE;
                }
                if (rows.count == 0) {
                    return depth;
                }
            }
            return NONE;
        }

        void takeEnds(Machine machine) {
            rows.count = 0;
            for (int cell = 0; cell < machine.countCells(); cell++) {
                if (machine.isEnd(cell)) {
                    rows.add(cell, 0, 0, 0);
                }
            }
        }

        /** Takes the ROWS of the next depth; returns false if these are too many. */
        boolean goBack(Machine machine) {
            spare.count = 0;
            for (int i = 0; i < rows.count && i < MOST_ROWS; i++) {
                for (int cell = 0; cell < machine.countCells(); cell++) {
                    if (canLead(machine, cell, i)) {
                        int place = rows.places[i] - machine.moveOf(cell);
                        if (!spare.add(cell, place, rows.known[i], rows.ones[i])) {
                            return false;
                        }
                    }
                }
            }
            Rows former = rows;
            rows = spare;
            spare = former;
            return true;
        }

        boolean canLead(Machine machine, int cell, int row) {
            if (row < 0 || row >= MOST_ROWS || machine.isEmpty(cell)
                    || machine.nextOf(cell) != rows.states[row]) {
                return false;
            }
            int bit = Rows.bitOf(rows.places[row] - machine.moveOf(cell));
            int there = (rows.ones[row] & bit) == 0 ? 0 : 1;
            return (rows.known[row] & bit) == 0 || there == machine.writeOf(cell);
        }
    }

    /** The check of GRAM. A row of SYMBOLS is told in bits, the nearest SYMBOL as the lowest one. */
    private static final class Gram {
        final boolean[] isFound;
        final int[] found;
        final boolean[] lefts;
        final boolean[] rights;
        int count;
        int width;
        boolean isNew;

        Gram() {
            isFound = new boolean[GRAM_WINDOWS];
            found = new int[GRAM_WINDOWS];
            lefts = new boolean[GRAM_ROWS];
            rights = new boolean[GRAM_ROWS];
        }

        int smallestWidth(Machine machine) {
            for (int a = 1; a <= MOST_WIDTH; a++) {
                if (isClosed(machine, a)) {
                    return a;
                }
            }
            return NONE;
        }

        boolean isClosed(Machine machine, int a) {
            clear(a);
            for (int pass = 0; pass < MOST_PASSES; pass++) {
                isNew = false;
                for (int i = 0; i < count && i < GRAM_WINDOWS; i++) {
                    if (!spread(machine, found[i])) {
                        return false;
                    }
                }
                // Rows that came late let a WINDOW of earlier in the same pass lead further.
                if (!isNew) {
                    return true;
                }
            }
            return false;
        }

        void clear(int a) {
            for (int i = 0; i < GRAM_WINDOWS; i++) {
                isFound[i] = false;
            }
            for (int i = 0; i < GRAM_ROWS; i++) {
                lefts[i] = false;
                rights[i] = false;
            }
            width = a;
            count = 0;
            addRow(lefts, 0);
            addRow(rights, 0);
            addWindow(0, 0, 0);
        }

        /** Adds what comes from a WINDOW; returns false if its CELL is an end. */
        boolean spread(Machine machine, int window) {
            int cell = window / (GRAM_ROWS * GRAM_ROWS);
            int left = window / GRAM_ROWS % GRAM_ROWS;
            int right = window % GRAM_ROWS;
            if (machine.isEnd(cell)) {
                return false;
            }
            boolean toRight = machine.moveOf(cell) == 1;
            int ahead = toRight ? right : left;
            int behind = toRight ? left : right;
            addRow(toRight ? lefts : rights, behind);
            int nextCell = 2 * machine.nextOf(cell) + (ahead & 1);
            int nextBehind = ((behind << 1) | machine.writeOf(cell)) & ((1 << width) - 1);
            for (int x = 0; x <= 1; x++) {
                int nextAhead = (ahead >> 1) | (x << (width - 1));
                if (hasRow(toRight ? rights : lefts, nextAhead)) {
                    addWindow(nextCell, toRight ? nextBehind : nextAhead, toRight ? nextAhead : nextBehind);
                }
            }
            return true;
        }

        boolean hasRow(boolean[] rows, int row) {
            return row >= 0 && row < rows.length && rows[row];
        }

        void addRow(boolean[] rows, int row) {
            if (row >= 0 && row < rows.length && !rows[row]) {
                rows[row] = true;
                isNew = true;
            }
        }

        void addWindow(int cell, int left, int right) {
            int window = (cell * GRAM_ROWS + left) * GRAM_ROWS + right;
            if (window < 0 || window >= GRAM_WINDOWS || isFound[window]) {
                return;
            }
            if (count >= 0 && count < GRAM_WINDOWS) {
                isFound[window] = true;
                found[count] = window;
                count++;
                isNew = true;
            }
        }
    }

    /** A CUT and two words. Words and rows have a 1 ahead of their SYMBOLS. */
    private static final class Tag {
        final int cut;
        final int zero;
        final int one;

        Tag(int cut, int zero, int one) {
            this.cut = cut;
            this.zero = zero;
            this.one = one;
        }

        static int lengthOf(int row) {
            int length = 0;
            while (length < 30 && (row >> length) > 1) {
                length++;
            }
            return length;
        }

        int goOn(int row) {
            int length = lengthOf(row);
            if (length < cut) {
                return row;
            }
            boolean isOne = (row >> (length - 1) & 1) == 1;
            int word = isOne ? one : zero;
            int wordLength = lengthOf(word);
            int longer = (row << wordLength) | (word - (1 << wordLength));
            int left = length + wordLength - cut;
            return (longer & ((1 << left) - 1)) | (1 << left);
        }
    }
}
