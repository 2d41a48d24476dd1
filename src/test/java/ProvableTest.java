import java.math.BigInteger;

/** Promises 21 to 24: cycleIn, backIn, gramIn, digest. */
public final class ProvableTest {
    private final Checks checks = new Checks("ProvableTest");

    public static void main(String[] args) {
        ProvableTest test = new ProvableTest();
        test.cycleIn();
        test.cycleInWithin();
        test.backIn();
        test.gramIn();
        test.nothingIsChanged();
        test.digestOfNothing();
        test.digestNumberByNumber();
        test.digestOfWhatIsAsked();
        test.digestTellsApart();
        test.checks.end();
    }

    private void cycles(String table, int bound, int due) {
        checks.is(table + ": cycleIn(0, " + bound + ")", due, () -> Tables.of(table).cycleIn(0, bound));
    }

    private void cycleIn() {
        cycles("1RA ---  --- ---", 1, 1);
        cycles("1RA ---  --- ---", 40, 1);
        cycles("1LA ---  --- ---", 1, 1);
        cycles("0RB ---  0LA ---", 1, -1);
        cycles("0RB ---  0LA ---", 2, 2);
        cycles("1RB 1RB  1LA 1LA", 3, -1);
        cycles("1RB 1RB  1LA 1LA", 4, 402);
        cycles("1LB 1LA  1LC 1RD  1RB 1RC  1LA 0RB", 39, -1);
        cycles("1LB 1LA  1LC 1RD  1RB 1RC  1LA 0RB", 40, 5214);
        cycles("1RB 1LB  1LA 1RZ", 40, -1);
        cycles("1RB ---  --- ---", 40, -1);
        cycles("--- ---  --- ---", 1, -1);
        // 1 and 4, 2 and 2, 3 and 2 would be taken, too.
        cycles("1RB ---  1RC ---  1RB ---", 2, -1);
        cycles("1RB ---  1RC ---  1RB ---", 3, 202);
        cycles("1RB ---  1RC ---  1RB ---", 40, 202);
    }

    /** "with the smallest sum of both (at most bound)": with a bound of 40 a sum of 40, and not of 41. */
    private void cycleInWithin() {
        String forty = "1RC 0LC  1LA 0RD  1LD 1RD  1LA 1RA";
        cycles(forty, 39, -1);
        cycles(forty, 40, 2627);
        String more = "0RD 1LC  0LA 1RA  0LA 0RB  1LA 1RD";
        cycles(more, 40, -1);
        checks.is(more + " taken by 14, 27", true, () -> Tables.of(more).prove(0, 1, 14, 27));
        // With a, or b, as great as can be.
        cycles("1LC 0LC  1LD 0RC  1RB 0LD  0RD 1LA", 29, -1);
        cycles("1LC 0LC  1LD 0RC  1RB 0LD  0RD 1LA", 30, 29 * 200 + 1);
        cycles("1RB 1LC  1LD 0RC  1LC 0LA  --- 1RB", 39, -1);
        cycles("1RB 1LC  1LD 0RC  1LC 0LA  --- 1RB", 40, 39 * 200 + 1);
        cycles("1RB 0LA  0RC 1RC  1RD 1LA  0LC 1RA", 39, -1);
        cycles("1RB 0LA  0RC 1RC  1RD 1LA  0LC 1RA", 40, 40);
    }

    private void backs(String table, int due) {
        checks.is(table + ": backIn(0)", due, () -> Tables.of(table).backIn(0));
    }

    private void backIn() {
        backs("0RB 1LA  1LA 1RB", 1);
        backs("1RB 1LA  1LA 1RB  0RD 0LA  0RZ 0LA", 2);
        backs("1RC 1LA  0LD 1RZ  1LD 1RC  0RB 1LA", 3);
        backs("1LC 1RA  0LD 1LA  1RA 0RB  0RZ 1RC", 4);
        backs("1LB 0LZ  0LC 1RA  1RB 0RA", 5);
        backs("1LA 1RB  1RC 0RC  0RZ 1LA", 6);
        // There is no ROW at the depth 7 for the first time.
        backs("0LB 0RC  1LB 1RA  1RZ 0LA", -1);
        backs("0RB 1LD  0LA 0LA  0LA 0LA  --- ---", 3);
        backs("1RB 1LZ  1LC 1RB  1LA 1LC", -1);
        backs("1RB 1LB  1LA 1RZ", -1);
        // No ROW at the depth 1, but it STOPS with its STEP 1, or HANGS ahead of it.
        backs("1RZ 1LB  1RB 1RB", -1);
        backs("--- 1LB  1RB 1RB", -1);
        backs("--- ---  --- ---", -1);
    }

    private void grams(String table, int due) {
        checks.is(table + ": gramIn(0)", due, () -> Tables.of(table).gramIn(0));
    }

    private void gramIn() {
        grams("1RA ---  --- ---", 1);
        grams("0LB 0RA  1RA 1LB  --- 0RC", 1);
        grams("1RB 1LZ  1LC 1RB  1LA 1LC", 2);
        grams("1LB 1RZ  1RC 1LB  1RA 1RC", 2);
        grams("1RC 0LB  1LA 0LZ  1LA 0RA", 3);
        grams("1LC 0RB  1RA 0RZ  1RA 0LA", 3);
        // By rows of 4 SYMBOLS, or of more, or by none at all.
        grams("1RB ---  1LC 0RB  1LA 0LB", -1);
        grams("1RB 1LB  --- 0LC  0LB 1LA", -1);
        grams("1RB 1LB  1LA 1RZ", -1);
        grams("--- ---  --- ---", -1);
    }

    private void nothingIsChanged() {
        Haltingale x = Tables.of("1LA 1RB  1RC 0RC  0RZ 1LA");
        long before = x.digest();
        checks.is("cycleIn of an OPEN machine", 1, () -> x.cycleIn(0, 40));
        checks.is("backIn of an OPEN machine", 6, () -> x.backIn(0));
        checks.is("gramIn of an OPEN machine", 1, () -> x.gramIn(0));
        checks.is("digest() then", before, () -> x.digest());
        x.prove(0, 2, 6, 0);
        long decided = x.digest();
        checks.is("cycleIn of a DECIDED machine", 1, () -> x.cycleIn(0, 40));
        checks.is("backIn of a DECIDED machine", 6, () -> x.backIn(0));
        checks.is("gramIn of a DECIDED machine", 1, () -> x.gramIn(0));
        checks.is("digest() then, too", decided, () -> x.digest());
    }

    /** "d becomes d * 31 + v, which wraps around as a 64-bit integer". */
    private static long wrapped(int... numbers) {
        BigInteger d = BigInteger.valueOf(58237);
        for (int v : numbers) {
            d = d.multiply(BigInteger.valueOf(31)).add(BigInteger.valueOf(v));
        }
        BigInteger rest = d.mod(BigInteger.TWO.pow(64));
        return rest.testBit(63) ? rest.subtract(BigInteger.TWO.pow(64)).longValueExact() : rest.longValueExact();
    }

    /** It has wrapped around by then; and the champions are NONE. */
    private void digestOfNothing() {
        long due = wrapped(0, 0, 0, 0, 0, 0, 0, 0, 0, 0, 0, -1, -1);
        checks.is("digest of a new object", due, () -> new Haltingale().digest());
        checks.is("what that is", 483314258739949443L, () -> due);
    }

    private void digestNumberByNumber() {
        Haltingale x = Tables.of("1RB 1LB  1LA 1RZ", "0RB ---  0LA ---");
        x.prove(0, 0, 5, 0);
        x.prove(0, 0, 6, 0);
        x.tag(2, 11, 6);
        int[] numbers = {
            2, 1, 1, 0, 0, 0, 1, 2, 1, 0, 2,
            2, 0, 0, 6, 0, 0, 4, 6, 0,
            1, 1, 1, 1, 0, 1, 1, 0, 0, 1, 1, 2,
            6, 2, 0, 4, 1, -2, 1, 8,
            -1, -1,
            2, 2, -1, -1, -1, 0, -1, -1, -1,
            0, 1, 1, -1, -1, -1, 0, 0, 0, -1, -1, -1,
            40, 0, 0, 0, 1, 0, 1, 0,
            2, 2,
            // 010 0011 11011 01110 110011 001110 1110011 1001110 0111010 11010011, and a 1 ahead of that.
            0b1_11010011,
            0, 0};
        checks.is("digest", wrapped(numbers), () -> x.digest());
    }

    /** The same from the answers of the other methods, of an object for which most of these are not alike. */
    private void digestOfWhatIsAsked() {
        // The sums of CYCLE are 8 and 9; the champions are the machines 3 and 2; a row that is too long.
        Haltingale x = Tables.of("0RB 0LA  1RC 0RZ  1RD 1LD  0LC 1RA", "1RD 1LZ  0LC 1LC  0RA 1LA  1LC 0RC",
                "1RB 1RZ  1LB 0RC  1LC 1LA", "1RB 1RZ  0RC 1RB  1LC 1LA", "1RB ---  --- 0LC  --- ---",
                "1RB 1LA  1LA 1RB  0RD 0LA  0RZ 0LA", "1RB 1LZ  1LC 1RB  1LA 1LC");
        for (int machine = 2; machine <= 6; machine++) {
            x.decide(machine);
        }
        x.prove(0, 3, 1, 0);
        x.tag(2, 11, 6);
        x.tag(1, 63, 63);
        checks.is("cycleIn(0, 8)", 8, () -> x.cycleIn(0, 8));
        checks.is("cycleIn(1, 8)", -1, () -> x.cycleIn(1, 8));
        checks.is("cycleIn(1, 9)", 9, () -> x.cycleIn(1, 9));
        checks.is("champion(0)", 3, () -> x.champion(0));
        checks.is("champion(1)", 2, () -> x.champion(1));
        long d = 58237;
        for (int what = 0; what <= 10; what++) {
            d = d * 31 + x.many(what);
        }
        for (int machine = 0; machine < 7; machine++) {
            for (int what = 0; what <= 8; what++) {
                d = d * 31 + x.ofMachine(machine, what);
            }
            for (int i = 0; i < 6 * x.ofMachine(machine, 0); i++) {
                d = d * 31 + x.cell(machine, i / 6, i / 3 % 2, i % 3);
            }
            for (int what = 0; what <= 7; what++) {
                d = d * 31 + x.at(machine, 40, what);
            }
            d = d * 31 + x.cycleIn(machine, 8);
            d = d * 31 + x.backIn(machine);
        }
        for (int tag = 0; tag < 2; tag++) {
            d = d * 31 + x.tagged(tag, 10, 9);
        }
        d = (d * 31 + x.champion(0)) * 31 + x.champion(1);
        long due = d;
        checks.is("digest of what is asked", due, () -> x.digest());
    }

    private void digestTellsApart() {
        Haltingale x = Tables.of("1RB 1LB  1LA 1RZ");
        long before = x.digest();
        x.decide(0);
        long decided = x.digest();
        checks.is("it is another one, decided", false, () -> decided == before);
        x.doubt(0);
        checks.is("it is another one, doubted", false, () -> x.digest() == before);
        checks.is("it is the same, asked again", x.digest(), () -> x.digest());
    }
}
