import java.util.ArrayList;
import java.util.HashMap;
import java.util.HashSet;
import java.util.List;
import java.util.Map;
import java.util.Set;
import java.util.TreeMap;

/**
 * The document once more, as slowly and as literally as can be, and with nothing in common with the
 * program but the document: the ModelTest compares the two.
 */
final class Model {
    record Cell(int write, int move, int next) {
    }

    record Proof(int kind, int a, int b) {
    }

    /** How a machine stands behind some STEPS; a PLACE that is not in ones has a 0. */
    record Stand(int state, int place, Set<Integer> ones, int least, int greatest) {
        int symbol(int at) {
            return ones.contains(at) ? 1 : 0;
        }
    }

    record Row(int state, int place, Map<Integer, Integer> known) {
    }

    record Window(int state, String left, char symbol, String right) {
    }

    static final class Machine {
        int states;
        Map<Integer, Cell> cells = new HashMap<>();
        Proof proof;
        List<Stand> stands;

        Cell cell(int state, int symbol) {
            return cells.get(state * 10 + symbol);
        }

        void put(int state, int symbol, Cell cell) {
            cells.put(state * 10 + symbol, cell);
            stands = null;
        }

        /** The stands behind 0, 1, 2 and so on STEPS, as many as it does, at most 500. */
        List<Stand> stands() {
            if (stands == null) {
                stands = new ArrayList<>();
                stands.add(new Stand(0, 0, Set.of(), 0, 0));
                while (stands.size() <= 500) {
                    Stand now = stands.get(stands.size() - 1);
                    if (now.state == states || cell(now.state, now.symbol(now.place)) == null) {
                        break;
                    }
                    Cell cell = cell(now.state, now.symbol(now.place));
                    Set<Integer> ones = new HashSet<>(now.ones);
                    if (cell.write == 1) {
                        ones.add(now.place);
                    } else {
                        ones.remove(now.place);
                    }
                    int place = now.place + cell.move;
                    stands.add(new Stand(cell.next, place, ones, Math.min(now.least, place), Math.max(now.greatest, place)));
                }
            }
            return stands;
        }

        Stand behind(int steps) {
            return stands().get(Math.min(steps, stands().size() - 1));
        }

        boolean goesOnFor(int steps) {
            return stands().size() > steps && behind(steps).state != states;
        }

        Stand last() {
            return behind(500);
        }

        boolean stops() {
            return last().state == states;
        }

        boolean hangs() {
            return !stops() && cell(last().state, last().symbol(last().place)) == null;
        }
    }

    record Tag(int cut, String zero, String one) {
    }

    private final List<Machine> machines = new ArrayList<>();
    private final List<Tag> tags = new ArrayList<>();
    private int given;
    private int taken;
    private int takenBack;

    int machine(int states) {
        argument(states >= 2 && states <= 4);
        state(machines.size() < 12);
        Machine made = new Machine();
        made.states = states;
        machines.add(made);
        return machines.size() - 1;
    }

    int tell(int machine, int state, int symbol, int write, int move, int next) {
        return write(machine, state, symbol, write, move, next, true);
    }

    boolean amend(int machine, int state, int symbol, int write, int move, int next) {
        index(machine >= 0 && machine < machines.size());
        boolean was = machines.get(machine).proof != null;
        write(machine, state, symbol, write, move, next, false);
        return was;
    }

    private int write(int machine, int state, int symbol, int write, int move, int next, boolean empty) {
        Machine it = cellOf(machine, state, symbol);
        argument((write == 0 || write == 1) && Math.abs(move) == 1 && next >= 0 && next <= it.states);
        state((it.cell(state, symbol) == null) == empty);
        it.put(state, symbol, new Cell(write, move, next));
        open(it);
        return 2 * it.states - it.cells.size();
    }

    int child(int machine, int way) {
        Machine it = get(machine);
        List<Cell> ways = ways(it);
        argument(way >= 0 && way < ways.size());
        state(machines.size() < 12);
        Machine made = new Machine();
        made.states = it.states;
        made.cells.putAll(it.cells);
        Stand last = it.last();
        made.put(last.state, last.symbol(last.place), ways.get(way));
        machines.add(made);
        return machines.size() - 1;
    }

    private static List<Cell> ways(Machine it) {
        List<Cell> ways = new ArrayList<>();
        if (!it.hangs()) {
            return ways;
        }
        int greatest = 0;
        for (Cell cell : it.cells.values()) {
            if (cell.next != it.states && cell.next > greatest) {
                greatest = cell.next;
            }
        }
        ways.add(new Cell(1, 1, it.states));
        for (int next = 0; next < it.states && next <= greatest + 1; next++) {
            ways.add(new Cell(1, 1, next));
            ways.add(new Cell(0, 1, next));
            ways.add(new Cell(1, -1, next));
            ways.add(new Cell(0, -1, next));
        }
        return ways;
    }

    int tag(int cut, int zero, int one) {
        argument(cut >= 1 && cut <= 3 && zero >= 1 && zero <= 63 && one >= 1 && one <= 63);
        state(tags.size() < 4);
        tags.add(new Tag(cut, text(zero), text(one)));
        return tags.size() - 1;
    }

    boolean prove(int machine, int kind, int a, int b) {
        Machine it = get(machine);
        argument(kind >= 0 && kind <= 3);
        int least = kind == 1 ? 0 : 1;
        int most = new int[] {500, 150, 6, 3}[kind];
        argument(a >= least && a <= most && (kind == 1 ? b >= 1 && b <= 150 : b == 0));
        state(it.proof == null);
        given++;
        if (!isTaken(it, kind, a, b)) {
            return false;
        }
        taken++;
        it.proof = new Proof(kind, a, b);
        return true;
    }

    private static boolean isTaken(Machine it, int kind, int a, int b) {
        switch (kind) {
            case 0:
                return it.stops() && it.stands().size() - 1 == a;
            case 1:
                return isCycle(it, a, b);
            case 2:
                return isBack(it, a);
            default:
                return isGram(it, a);
        }
    }

    private static boolean isCycle(Machine it, int a, int b) {
        if (!it.goesOnFor(a + b) || it.behind(a).state != it.behind(a + b).state) {
            return false;
        }
        Stand before = it.behind(a);
        Stand then = it.behind(a + b);
        int d = then.place - before.place;
        int bound = 0;
        for (int i = a; i <= a + b; i++) {
            int place = it.behind(i).place;
            bound = i == a ? place : d > 0 ? Math.min(bound, place) : Math.max(bound, place);
        }
        for (int p = -1000; p <= 1000; p++) {
            if ((d == 0 || (d > 0 && p >= bound) || (d < 0 && p <= bound)) && then.symbol(p + d) != before.symbol(p)) {
                return false;
            }
        }
        return true;
    }

    private static boolean isBack(Machine it, int a) {
        List<Row> rows = new ArrayList<>();
        for (int state = 0; state < it.states; state++) {
            for (int symbol = 0; symbol <= 1; symbol++) {
                Cell cell = it.cell(state, symbol);
                if (cell == null || cell.next == it.states) {
                    rows.add(new Row(state, 0, Map.of(0, symbol)));
                }
            }
        }
        for (int depth = 1; depth <= a; depth++) {
            if (rows.size() > 24) {
                return false;
            }
            rows = before(it, rows);
        }
        return rows.isEmpty() && it.goesOnFor(a);
    }

    private static List<Row> before(Machine it, List<Row> rows) {
        List<Row> all = new ArrayList<>();
        for (Row row : rows) {
            for (int state = 0; state < it.states; state++) {
                for (int symbol = 0; symbol <= 1; symbol++) {
                    Cell cell = it.cell(state, symbol);
                    if (cell == null || cell.next != row.state) {
                        continue;
                    }
                    int place = row.place - cell.move;
                    Integer there = row.known.get(place);
                    if (there == null || there == cell.write) {
                        Map<Integer, Integer> known = new TreeMap<>(row.known);
                        known.put(place, symbol);
                        all.add(new Row(state, place, known));
                    }
                }
            }
        }
        return all;
    }

    private static boolean isGram(Machine it, int a) {
        String zeros = "000".substring(0, a);
        Set<String> lefts = new HashSet<>(Set.of(zeros));
        Set<String> rights = new HashSet<>(Set.of(zeros));
        Set<Window> windows = new HashSet<>(Set.of(new Window(0, zeros, '0', zeros)));
        boolean isNew = true;
        while (isNew) {
            isNew = false;
            for (Window window : new ArrayList<>(windows)) {
                Cell cell = it.cell(window.state, window.symbol - '0');
                if (cell == null || cell.next == it.states) {
                    return false;
                }
                boolean right = cell.move == 1;
                String ahead = right ? window.right : window.left;
                String behind = right ? window.left : window.right;
                isNew |= (right ? lefts : rights).add(behind);
                String behindThen = (cell.write + behind).substring(0, a);
                for (String x : List.of("0", "1")) {
                    String aheadThen = ahead.substring(1) + x;
                    if ((right ? rights : lefts).contains(aheadThen)) {
                        isNew |= windows.add(new Window(cell.next, right ? behindThen : aheadThen,
                                ahead.charAt(0), right ? aheadThen : behindThen));
                    }
                }
            }
        }
        return true;
    }

    int doubt(int kind) {
        argument(kind >= 0 && kind <= 3);
        int count = 0;
        for (Machine it : machines) {
            if (it.proof != null && it.proof.kind == kind) {
                open(it);
                count++;
            }
        }
        return count;
    }

    int decide(int machine) {
        Machine it = get(machine);
        state(it.proof == null);
        if (it.stops()) {
            it.proof = new Proof(0, it.stands().size() - 1, 0);
        } else if (cycleIn(machine, 30) != -1) {
            it.proof = new Proof(1, cycleIn(machine, 30) / 200, cycleIn(machine, 30) % 200);
        } else if (backIn(machine) != -1) {
            it.proof = new Proof(2, backIn(machine), 0);
        } else if (gramIn(machine) != -1) {
            it.proof = new Proof(3, gramIn(machine), 0);
        }
        return it.proof == null ? -1 : it.proof.kind;
    }

    int cell(int machine, int state, int symbol, int what) {
        Machine it = cellOf(machine, state, symbol);
        argument(what >= 0 && what <= 2);
        Cell cell = it.cell(state, symbol);
        if (cell == null) {
            return -1;
        }
        return what == 0 ? cell.write : what == 1 ? (cell.move == 1 ? 1 : 0) : cell.next;
    }

    int ofMachine(int machine, int what) {
        Machine it = get(machine);
        argument(what >= 0 && what <= 8);
        int[] all = {it.states, 2 * it.states - it.cells.size(),
            it.proof == null ? -1 : it.proof.kind, it.proof == null ? -1 : it.proof.a, it.proof == null ? -1 : it.proof.b,
            ways(it).size(),
            it.stops() ? it.last().ones.size() : -1,
            it.stops() ? it.stands().size() - 1 : -1,
            it.stops() ? Math.abs(it.last().place) : -1};
        return all[what];
    }

    int at(int machine, int steps, int what) {
        Machine it = get(machine);
        argument(steps >= 0 && steps <= 500 && what >= 0 && what <= 7);
        Stand stand = it.behind(steps);
        StringBuilder visited = new StringBuilder();
        for (int p = stand.least; p <= stand.greatest; p++) {
            visited.append(stand.symbol(p));
        }
        int runs = visited.toString().replaceAll("0+", "0").replaceAll("1+", "1").length();
        int[] all = {Math.min(steps, it.stands().size() - 1), stand.state, stand.place, stand.ones.size(), runs,
            stand.least, stand.greatest, 8 * stand.ones.size() / visited.length()};
        return all[what];
    }

    int symbol(int machine, int steps, int place) {
        Machine it = get(machine);
        argument(steps >= 0 && steps <= 500 && place >= -501 && place <= 501);
        return it.behind(steps).symbol(place);
    }

    double lean(int machine, int steps) {
        Machine it = get(machine);
        argument(steps >= 0 && steps <= 500);
        int done = Math.min(steps, it.stands().size() - 1);
        if (done == 0) {
            return 0.0;
        }
        // The quarters -4 to 4 in an order in which an even one comes ahead of an odd one.
        int best = 0;
        for (int quarters : new int[] {0, -2, 2, -4, 4, -1, 1, -3, 3}) {
            if (Math.abs(4 * it.behind(steps).place - quarters * done) < Math.abs(4 * it.behind(steps).place - best * done)) {
                best = quarters;
            }
        }
        return best / 4.0;
    }

    int meets(int machine, int state, int symbol, int steps) {
        Machine it = cellOf(machine, state, symbol);
        argument(steps >= 0 && steps <= 500);
        for (int i = 0; i <= steps && i < it.stands().size(); i++) {
            Stand stand = it.behind(i);
            if (stand.state == state && stand.symbol(stand.place) == symbol) {
                return i;
            }
        }
        return -1;
    }

    int likeness(int one, int other) {
        Machine first = get(one);
        Machine second = get(other);
        if (first.states != second.states) {
            return 0;
        }
        if (first.cells.equals(second.cells)) {
            return 1;
        }
        Map<Integer, Cell> turned = new HashMap<>();
        second.cells.forEach((key, cell) -> turned.put(key, new Cell(cell.write, -cell.move, cell.next)));
        return first.cells.equals(turned) ? 2 : 0;
    }

    int champion(int what) {
        argument(what == 0 || what == 1);
        int best = -1;
        for (int i = 0; i < machines.size(); i++) {
            Machine it = machines.get(i);
            if (it.proof != null && it.proof.kind == 0
                    && (best == -1 || ofMachine(i, 6 + what) > ofMachine(best, 6 + what))) {
                best = i;
            }
        }
        return best;
    }

    int tagged(int tag, int row, int steps) {
        index(tag >= 0 && tag < tags.size());
        argument(row >= 1 && row <= 1023 && steps >= 0 && steps <= 200);
        Tag it = tags.get(tag);
        String now = text(row);
        for (int i = 0; i < steps && now.length() >= it.cut; i++) {
            now = (now + (now.charAt(0) == '0' ? it.zero : it.one)).substring(it.cut);
            if (now.length() > 20) {
                return -1;
            }
        }
        return Integer.parseInt("1" + now, 2);
    }

    int many(int what) {
        argument(what >= 0 && what <= 10);
        int[] all = new int[11];
        all[0] = machines.size();
        for (Machine it : machines) {
            all[it.proof == null ? 1 : it.proof.kind + 2]++;
            all[10] += 2 * it.states - it.cells.size();
        }
        all[6] = tags.size();
        all[7] = given;
        all[8] = taken;
        all[9] = takenBack;
        return all[what];
    }

    double meanStop() {
        return machines.stream().filter(it -> it.proof != null && it.proof.kind == 0)
                .mapToInt(it -> it.proof.a).average().orElse(0);
    }

    int cycleIn(int machine, int bound) {
        Machine it = get(machine);
        argument(bound >= 1 && bound <= 40);
        for (int sum = 1; sum <= bound; sum++) {
            for (int a = 0; a < sum; a++) {
                if (isCycle(it, a, sum - a)) {
                    return 200 * a + sum - a;
                }
            }
        }
        return -1;
    }

    int backIn(int machine) {
        Machine it = get(machine);
        for (int a = 1; a <= 6; a++) {
            if (isBack(it, a)) {
                return a;
            }
        }
        return -1;
    }

    int gramIn(int machine) {
        Machine it = get(machine);
        for (int a = 1; a <= 3; a++) {
            if (isGram(it, a)) {
                return a;
            }
        }
        return -1;
    }

    long digest() {
        List<Integer> all = new ArrayList<>();
        for (int what = 0; what <= 10; what++) {
            all.add(many(what));
        }
        for (int i = 0; i < machines.size(); i++) {
            for (int what = 0; what <= 8; what++) {
                all.add(ofMachine(i, what));
            }
            for (int of = 0; of < 6 * machines.get(i).states; of++) {
                all.add(cell(i, of / 6, of / 3 % 2, of % 3));
            }
            for (int what = 0; what <= 7; what++) {
                all.add(at(i, 40, what));
            }
            all.add(cycleIn(i, 8));
            all.add(backIn(i));
        }
        for (int i = 0; i < tags.size(); i++) {
            all.add(tagged(i, 10, 9));
        }
        all.add(champion(0));
        all.add(champion(1));
        long d = 58237;
        for (int v : all) {
            d = d * 31 + v;
        }
        return d;
    }

    private void open(Machine it) {
        if (it.proof != null) {
            it.proof = null;
            takenBack++;
        }
    }

    private Machine get(int machine) {
        index(machine >= 0 && machine < machines.size());
        return machines.get(machine);
    }

    private Machine cellOf(int machine, int state, int symbol) {
        Machine it = get(machine);
        index(state >= 0 && state < it.states && (symbol == 0 || symbol == 1));
        return it;
    }

    /** The SYMBOLS behind the 1 of a word or a row. */
    private static String text(int number) {
        return Integer.toBinaryString(number).substring(1);
    }

    private static void index(boolean holds) {
        if (!holds) {
            throw new IndexOutOfBoundsException();
        }
    }

    private static void argument(boolean holds) {
        if (!holds) {
            throw new IllegalArgumentException();
        }
    }

    private static void state(boolean holds) {
        if (!holds) {
            throw new IllegalStateException();
        }
    }
}
