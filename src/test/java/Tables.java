/** Tells whole machines from short texts. */
final class Tables {
    private Tables() {
    }

    /**
     * Tells a machine from a text such as "1RB 1LB  1LA 1RZ": STATE by STATE the CELLS of the SYMBOLS 0 and 1,
     * each with what it WRITES, its MOVE and its NEXT (Z is STOP); --- is EMPTY. Returns its number.
     */
    static int tell(Haltingale x, String table) {
        String[] cells = table.trim().split(" +");
        int states = cells.length / 2;
        int machine = x.machine(states);
        for (int i = 0; i < cells.length; i++) {
            String cell = cells[i];
            if (!cell.equals("---")) {
                int next = cell.charAt(2) == 'Z' ? states : cell.charAt(2) - 'A';
                x.tell(machine, i / 2, i % 2, cell.charAt(0) - '0', cell.charAt(1) == 'R' ? 1 : -1, next);
            }
        }
        return machine;
    }

    /** A new menagerie with machines from such texts. */
    static Haltingale of(String... tables) {
        Haltingale x = new Haltingale();
        for (String table : tables) {
            tell(x, table);
        }
        return x;
    }
}
