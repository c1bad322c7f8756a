/**
 * A day over tray 2 that an act on the row of the sort ends at the cell, by LACK or by PLACE. For the
 * row of DAYS, dark tells whether the cell is one whose day is to become 0.
 */
record DayEnd(int sort, boolean dark, int fault, int cell) {
    private static final int[] FIRST = {10, 8, Due.bits(1f), 1, 5};
    private static final int[] WRITTEN = {10, 8, 4, 1, 5};
    private static final int[] WET = {12, 6, Due.bits(0f), 1, 6};
    private static final int[] DRY = {10, 8, Due.bits(-1f), 1, 6};
    private static final int[] DARK = {10, 8, Due.bits(1f), 0, 0};
    static final int CELLS = 3;

    /** Tray 2 has rows of n cells: 10 MARKS, 8 SEEDS, 1 of WATER, lit, on day 5. */
    static TrayBench whole(int n) {
        TrayBench x = new TrayBench();
        for (int sort = 0; sort < Due.SORTS; sort++) {
            fill(x, sort, n);
        }
        return x;
    }

    static void fill(TrayBench x, int sort, int n) {
        x.lay(2, sort, n);
        for (int i = 0; i < n; i++) {
            x.write(2, sort, i, WRITTEN[sort]);
        }
    }

    TrayBench made() {
        TrayBench x = whole(CELLS);
        if (dark) {
            x.write(2, Due.LIT, cell, 0);
        }
        for (int i = 0; i < cell && fault == Due.LACK; i++) {
            x.write(2, sort == Due.WATER ? Due.LIT : Due.WATER, i, 0);
        }
        if (fault == Due.LACK) {
            x.take(2, sort);
        } else {
            fill(x, sort, cell);
        }
        return x;
    }

    int told() {
        int passed = fault == Due.LACK ? 0 : 2 * cell;
        return passed + (sort == Due.MARKS ? 2 : 0);
    }

    /** What was done ahead of the act stays, and nothing else was done. */
    void checkCells(TrayBench x) {
        for (int i = 0; i < CELLS; i++) {
            for (int s = 0; s < Due.SORTS; s++) {
                if (s == sort && (fault == Due.LACK || i >= cell)) {
                    Due.due(this + ": read(2, " + s + ", " + i + ")", x.read(2, s, i), fault);
                } else {
                    Due.cell(toString(), x, 2, s, i, number(s, i));
                }
            }
        }
    }

    private int number(int s, int i) {
        if (i < cell) {
            return passed()[s];
        }
        if (i > cell) {
            return FIRST[s];
        }
        if (s == Due.LIT) {
            return dark ? 0 : 1;
        }
        boolean done = sort == Due.MARKS || sort == Due.WATER && s == Due.DAYS;
        return done && s != Due.MARKS ? WET[s] : FIRST[s];
    }

    private int[] passed() {
        if (fault == Due.PLACE) {
            return WET;
        }
        return sort == Due.WATER ? DARK : DRY;
    }
}
