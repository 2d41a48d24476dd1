import java.util.ArrayList;
import java.util.List;

/** Makes the same calls on the program and on the Model, and compares what each one answers. */
public final class ModelTest {
    private static final int MOST_CALLS = 512;

    private final Haltingale x = new Haltingale();
    private final Model model = new Model();
    private final Checks checks;
    private final List<String> calls = new ArrayList<>();
    private long seed;
    private int machines;
    private int tags;

    private ModelTest(Checks checks, long seed) {
        this.checks = checks;
        this.seed = seed;
    }

    public static void main(String[] args) {
        Checks checks = new Checks("ModelTest");
        for (int run = 1; run <= 250; run++) {
            new ModelTest(checks, run * 7919L).run(run);
        }
        checks.end();
    }

    /** A number from 0 up to below, the same ones for the same seed. */
    private int any(int below) {
        seed = seed * 6364136223846793005L + 1442695040888963407L;
        return (int) Long.remainderUnsigned(seed >>> 33, below);
    }

    private boolean often() {
        return any(16) != 0;
    }

    /** Mostly a number from least to greatest, seldom one that is near or far outside. */
    private int around(int least, int greatest) {
        if (often()) {
            return least + any(greatest - least + 1);
        }
        int[] outside = {least - 1, greatest + 1, Integer.MIN_VALUE, Integer.MAX_VALUE, least - 1, greatest + 1};
        return outside[any(outside.length)];
    }

    private int machine() {
        return around(0, Math.max(machines - 1, 0));
    }

    private int state() {
        return around(0, 3);
    }

    private int steps() {
        return any(2) == 0 ? around(0, 30) : around(0, 500);
    }

    private void compare(String call, Checks.Call got, Checks.Call due) {
        calls.add(call);
        checks.same(call, Checks.outcome(got), Checks.outcome(due));
    }

    private void run(int run) {
        int shape = run % 5;
        int first = 1 + any(12);
        for (int i = 0; i < first; i++) {
            tellMachine(shape);
        }
        while (calls.size() < MOST_CALLS - 1) {
            int kind = any(20);
            if (kind < 8) {
                change();
            } else if (kind < 16) {
                ask();
            } else {
                prove();
            }
        }
        compare("digest of run " + run, () -> x.digest(), () -> model.digest());
    }

    private void tellMachine(int shape) {
        int states = 2 + any(3);
        makeMachine(states);
        int missing = shape == 0 ? 2 * states : shape == 1 ? 3 : 12;
        for (int cell = 0; cell < 2 * states; cell++) {
            if (any(missing) != 0) {
                int next = any(shape == 2 ? states : states + any(2));
                tell(machines - 1, cell / 2, cell % 2, any(4) == 0 ? 0 : 1, any(2) * 2 - 1, next);
            }
        }
    }

    private void makeMachine(int states) {
        compare("machine(" + states + ")", () -> x.machine(states), () -> model.machine(states));
        machines = model.many(0);
    }

    private void tell(int machine, int state, int symbol, int write, int move, int next) {
        compare("tell(" + machine + ", " + state + ", " + symbol + ", " + write + ", " + move + ", " + next + ")",
                () -> x.tell(machine, state, symbol, write, move, next),
                () -> model.tell(machine, state, symbol, write, move, next));
    }

    private void change() {
        int machine = machine();
        int state = state();
        int symbol = around(0, 1);
        int write = around(0, 1);
        int move = often() ? any(2) * 2 - 1 : any(5) - 2;
        int next = around(0, 4);
        switch (any(8)) {
            case 0 -> makeMachine(around(2, 4));
            case 1 -> tell(machine, state, symbol, write, move, next);
            case 2, 3 -> compare(
                    "amend(" + machine + ", " + state + ", " + symbol + ", " + write + ", " + move + ", " + next + ")",
                    () -> x.amend(machine, state, symbol, write, move, next),
                    () -> model.amend(machine, state, symbol, write, move, next));
            case 4, 5 -> {
                int way = around(0, 16);
                compare("child(" + machine + ", " + way + ")", () -> x.child(machine, way), () -> model.child(machine, way));
                machines = model.many(0);
            }
            case 6 -> {
                int cut = around(1, 3);
                int zero = around(1, 63);
                int one = around(1, 63);
                compare("tag(" + cut + ", " + zero + ", " + one + ")", () -> x.tag(cut, zero, one), () -> model.tag(cut, zero, one));
                tags = model.many(6);
            }
            default -> {
                int kind = around(0, 3);
                compare("doubt(" + kind + ")", () -> x.doubt(kind), () -> model.doubt(kind));
            }
        }
    }

    private void prove() {
        int machine = machine();
        if (any(3) == 0) {
            compare("decide(" + machine + ")", () -> x.decide(machine), () -> model.decide(machine));
            return;
        }
        int kind = around(0, 3);
        int[] most = {500, 150, 6, 3};
        int stop = kind == 0 && machine >= 0 && machine < machines ? model.ofMachine(machine, 7) : -1;
        int a = stop > 0 && any(4) != 0 ? stop : around(kind == 1 ? 0 : 1, kind >= 0 && kind <= 3 ? most[kind] : 3);
        int b = kind == 1 ? any(3) == 0 ? around(1, 150) : around(1, 24) : any(16) == 0 ? 1 : 0;
        compare("prove(" + machine + ", " + kind + ", " + a + ", " + b + ")",
                () -> x.prove(machine, kind, a, b), () -> model.prove(machine, kind, a, b));
    }

    private void ask() {
        int machine = machine();
        int state = state();
        int symbol = around(0, 1);
        int steps = steps();
        String name = "machine " + machine + " ";
        switch (any(14)) {
            case 0 -> {
                int what = around(0, 2);
                compare(name + "cell " + state + " " + symbol + " " + what,
                        () -> x.cell(machine, state, symbol, what), () -> model.cell(machine, state, symbol, what));
            }
            case 1 -> {
                int what = around(0, 8);
                compare(name + "ofMachine " + what, () -> x.ofMachine(machine, what), () -> model.ofMachine(machine, what));
            }
            case 2, 3 -> {
                int what = around(0, 7);
                compare(name + "at " + steps + " " + what, () -> x.at(machine, steps, what), () -> model.at(machine, steps, what));
            }
            case 4 -> {
                int place = any(2) == 0 ? around(-20, 20) : around(-501, 501);
                compare(name + "symbol " + steps + " " + place,
                        () -> x.symbol(machine, steps, place), () -> model.symbol(machine, steps, place));
            }
            case 5 -> compare(name + "lean " + steps, () -> x.lean(machine, steps), () -> model.lean(machine, steps));
            case 6 -> compare(name + "meets " + state + " " + symbol + " " + steps,
                    () -> x.meets(machine, state, symbol, steps), () -> model.meets(machine, state, symbol, steps));
            case 7 -> {
                int other = machine();
                compare(name + "likeness " + other, () -> x.likeness(machine, other), () -> model.likeness(machine, other));
            }
            case 8 -> {
                int what = around(0, 1);
                compare("champion " + what, () -> x.champion(what), () -> model.champion(what));
            }
            case 9 -> {
                int tag = around(0, Math.max(tags - 1, 0));
                int row = around(1, 1023);
                int times = any(2) == 0 ? around(0, 9) : around(0, 200);
                compare("tagged " + tag + " " + row + " " + times, () -> x.tagged(tag, row, times), () -> model.tagged(tag, row, times));
            }
            case 10 -> {
                int what = around(0, 10);
                compare("many " + what, () -> x.many(what), () -> model.many(what));
                compare("meanStop", () -> x.meanStop(), () -> model.meanStop());
            }
            case 11 -> {
                int bound = around(1, 40);
                compare(name + "cycleIn " + bound, () -> x.cycleIn(machine, bound), () -> model.cycleIn(machine, bound));
            }
            case 12 -> compare(name + "backIn", () -> x.backIn(machine), () -> model.backIn(machine));
            default -> compare(name + "gramIn", () -> x.gramIn(machine), () -> model.gramIn(machine));
        }
    }
}
