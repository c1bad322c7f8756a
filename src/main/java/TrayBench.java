/**
 * A bench for seed trays: trays have rows of five sorts of cells or lack them, days pass over them
 * cell by cell as far as they come, plots are laid out in furrows, sown from trays, and lifted
 * furrow by furrow.
 */
public final class TrayBench {
    /** There is none. */
    public static final int NONE = -1;

    private static final int MARKS = 0;
    private static final int SEEDS = 1;
    private static final int WATER = 2;
    private static final int LIT = 3;
    private static final int DAYS = 4;

    private static final int SORTS = 5;
    private static final int TRAYS = 4;
    private static final int PLOTS = 2;

    private static final int FINE = 0;
    private static final int LACK = 1;
    private static final int PLACE = 2;
    private static final int SIZE = 3;
    private static final int GREAT = 4;

    /** The most cells of a row, and the most furrows of a plot. */
    private static final int MOST = 64;

    private final Row[] rows = new Row[TRAYS * SORTS];
    private final Plot[] plots = new Plot[PLOTS];
    private int lastTold = 0;
    private int endCell = NONE;
    private int endSort = NONE;

    public TrayBench() {
        for (int r = 0; r < rows.length; r++) {
            rows[r] = new Row();
        }
        for (int p = 0; p < plots.length; p++) {
            plots[p] = new Plot();
        }
    }

    public int lay(int tray, int sort, int n) {
        if (!isTray(tray) || !isSort(sort)) {
            return NONE;
        }
        int fault = sizeFault(n, n);
        if (fault == FINE) {
            rowOf(tray, sort).renew(n);
        }
        return fault;
    }

    public int take(int tray, int sort) {
        int answer = length(tray, sort);
        if (answer == FINE) {
            rowOf(tray, sort).remove();
        }
        return answer;
    }

    public int length(int tray, int sort) {
        if (!isTray(tray) || !isSort(sort)) {
            return NONE;
        }
        Row row = rowOf(tray, sort);
        if (!row.isThere()) {
            return LACK;
        }
        return tell(row.size);
    }

    public int read(int tray, int sort, int i) {
        int answer = cellAnswer(tray, sort, i);
        if (answer != FINE) {
            return answer;
        }
        return tell(rowOf(tray, sort).cells[i]);
    }

    public int write(int tray, int sort, int i, int v) {
        int answer = cellAnswer(tray, sort, i);
        if (answer == FINE) {
            rowOf(tray, sort).cells[i] = Cell.becoming(sort, v);
        }
        return answer;
    }

    public int change(int tray, int sort, int i, int v) {
        int answer = cellAnswer(tray, sort, i);
        if (answer == FINE) {
            int[] cells = rowOf(tray, sort).cells;
            cells[i] = Cell.changed(sort, cells[i], v);
        }
        return answer;
    }

    public int step(int tray, int sort, int i) {
        if (sort == LIT) {
            return NONE;
        }
        int answer = cellAnswer(tray, sort, i);
        if (answer == FINE) {
            rowOf(tray, sort).increase(sort, i, 1);
        }
        return answer;
    }

    public int copy(int tray, int sort, int i, int from, int j) {
        if (!isTray(tray)) {
            return NONE;
        }
        int answer = cellAnswer(from, sort, j);
        if (answer == FINE) {
            answer = cellAnswer(tray, sort, i);
        }
        if (answer == FINE) {
            rowOf(tray, sort).cells[i] = rowOf(from, sort).cells[j];
        }
        return answer;
    }

    public int day(int tray) {
        if (!isTray(tray)) {
            return NONE;
        }
        endCell = 0;
        endSort = SEEDS;
        Row seeds = rowOf(tray, SEEDS);
        if (!seeds.isThere()) {
            return LACK;
        }
        lastTold = 0;
        for (int i = 0; i < seeds.size; i++) {
            endCell = i;
            endSort = passOver(tray, i);
            if (endSort != NONE) {
                return rowOf(tray, endSort).faultAt(i);
            }
        }
        endCell = NONE;
        endSort = NONE;
        return FINE;
    }

    public int where(int what) {
        if (what == 0) {
            return endCell;
        }
        return what == 1 ? endSort : NONE;
    }

    public int plot(int plot, int sort, int furrows, int cells) {
        if (!isPlot(plot) || !isSort(sort)) {
            return NONE;
        }
        int fault = sizeFault(furrows, cells);
        if (fault == FINE) {
            plots[plot].renew(sort, furrows, cells);
        }
        return fault;
    }

    public int furrows(int plot) {
        if (!isPlot(plot)) {
            return NONE;
        }
        if (!plots[plot].isLaidOut()) {
            return LACK;
        }
        return tell(plots[plot].count);
    }

    public int lift(int plot, int k) {
        if (!isPlot(plot)) {
            return NONE;
        }
        int fault = plots[plot].furrowFault(k);
        if (fault != FINE) {
            return fault;
        }
        Row furrow = plots[plot].rows[k];
        tell(furrow.size);
        furrow.remove();
        return FINE;
    }

    public int get(int plot, int k, int i) {
        int answer = plotAnswer(plot, k, i);
        if (answer != FINE) {
            return answer;
        }
        return tell(plots[plot].rows[k].cells[i]);
    }

    public int set(int plot, int k, int i, int v) {
        int answer = plotAnswer(plot, k, i);
        if (answer == FINE) {
            plots[plot].rows[k].cells[i] = Cell.becoming(plots[plot].sort, v);
        }
        return answer;
    }

    public int sow(int plot, int k, int i, int tray, int j) {
        if (!isPlot(plot) || !isTray(tray) || plots[plot].sort != SEEDS) {
            return NONE;
        }
        int answer = plotAnswer(plot, k, i);
        if (answer == FINE) {
            answer = cellAnswer(tray, SEEDS, j);
        }
        if (answer != FINE) {
            return answer;
        }
        Row furrow = plots[plot].rows[k];
        Row seeds = rowOf(tray, SEEDS);
        furrow.increase(SEEDS, i, seeds.cells[j]);
        seeds.cells[j] = 0;
        return tell(furrow.cells[i]);
    }

    public int told() {
        return lastTold;
    }

    private static boolean isTray(int tray) {
        return tray >= 0 && tray < TRAYS;
    }

    private static boolean isSort(int sort) {
        return sort >= 0 && sort < SORTS;
    }

    private static boolean isPlot(int plot) {
        return plot >= 0 && plot < PLOTS;
    }

    /** The document names GREAT ahead of SIZE, so one size above 64 outweighs one below 0. */
    private static int sizeFault(int one, int other) {
        if (one > MOST || other > MOST) {
            return GREAT;
        }
        return one < 0 || other < 0 ? SIZE : FINE;
    }

    private Row rowOf(int tray, int sort) {
        return rows[tray * SORTS + sort];
    }

    private int tell(int number) {
        lastTold = number;
        return FINE;
    }

    private int cellAnswer(int tray, int sort, int i) {
        return isTray(tray) && isSort(sort) ? rowOf(tray, sort).faultAt(i) : NONE;
    }

    private int plotAnswer(int plot, int k, int i) {
        if (!isPlot(plot)) {
            return NONE;
        }
        int fault = plots[plot].furrowFault(k);
        return fault == FINE ? plots[plot].rows[k].faultAt(i) : fault;
    }

    /**
     * Lets a day pass over cell i, which the row of SEEDS has, counting in lastTold the seeds that
     * leave it. Answers the sort of the row that ended the day, or NONE.
     */
    private int passOver(int tray, int i) {
        Row lit = rowOf(tray, LIT);
        Row days = rowOf(tray, DAYS);
        if (lit.faultAt(i) != FINE) {
            return LIT;
        }
        if (days.faultAt(i) != FINE) {
            return DAYS;
        }
        if (lit.cells[i] == 0) {
            days.cells[i] = 0;
            return NONE;
        }
        days.increase(DAYS, i, 1);
        Row water = rowOf(tray, WATER);
        if (water.faultAt(i) != FINE) {
            return WATER;
        }
        water.increase(WATER, i, -1);
        return Water.valueOf(water.cells[i]) < 0 ? NONE : moveQuarter(tray, i);
    }

    /** The seeds leave their cell ahead of coming to MARKS: without such a cell they are lost. */
    private int moveQuarter(int tray, int i) {
        Row seeds = rowOf(tray, SEEDS);
        int quarter = Math.floorDiv(seeds.cells[i], 4);
        seeds.increase(SEEDS, i, -quarter);
        lastTold += quarter;
        Row marks = rowOf(tray, MARKS);
        if (marks.faultAt(i) != FINE) {
            return MARKS;
        }
        marks.increase(MARKS, i, quarter);
        return NONE;
    }

    /**
     * A tray's row or a plot's furrow, there or not. Its cells are whole numbers, of WATER the bits
     * of the float: so all sorts are held alike, and a 0 of WATER keeps its sign.
     */
    private static final class Row {
        private static final int GONE = -1;

        private int size = GONE;
        private int[] cells = null;

        boolean isThere() {
            return size != GONE && cells != null;
        }

        /** The cells are made once, at their most, since all rows ever laid share one room. */
        void renew(int n) {
            if (cells == null) {
                cells = new int[MOST];
            }
            for (int i = 0; i < n && i < cells.length; i++) {
                cells[i] = 0;
            }
            size = n;
        }

        void remove() {
            size = GONE;
        }

        int faultAt(int i) {
            if (!isThere()) {
                return LACK;
            }
            return i >= 0 && i < size ? FINE : PLACE;
        }

        void increase(int sort, int i, int n) {
            cells[i] = Cell.increased(sort, cells[i], n);
        }
    }

    private static final class Plot {
        private static final int NOT_LAID_OUT = -1;

        private final Row[] rows = new Row[MOST];
        private int sort = SEEDS;
        private int count = NOT_LAID_OUT;

        Plot() {
            for (int k = 0; k < rows.length; k++) {
                rows[k] = new Row();
            }
        }

        boolean isLaidOut() {
            return count != NOT_LAID_OUT;
        }

        void renew(int newSort, int furrows, int cells) {
            sort = newSort;
            count = furrows;
            for (int k = 0; k < furrows && k < rows.length; k++) {
                rows[k].renew(cells);
            }
        }

        int furrowFault(int k) {
            if (!isLaidOut()) {
                return LACK;
            }
            if (k < 0 || k >= count) {
                return PLACE;
            }
            return rows[k].isThere() ? FINE : LACK;
        }
    }

    /** What a cell of each sort turns into. */
    private static final class Cell {
        static int becoming(int sort, int v) {
            switch (sort) {
                case WATER:
                    return Water.ofQuarters(v);
                case LIT:
                    return v != 0 ? 1 : 0;
                default:
                    return cut(sort, v);
            }
        }

        static int changed(int sort, int cell, int v) {
            switch (sort) {
                case MARKS:
                    return cut(MARKS, cell + v);
                case SEEDS:
                    return cut(SEEDS, cell - v);
                case WATER:
                    return Water.timesQuarters(cell, v);
                case LIT:
                    return v != 0 ? 1 - cell : cell;
                default:
                    return cut(DAYS, cell << (v & 31));
            }
        }

        static int increased(int sort, int cell, int n) {
            return sort == WATER ? Water.plus(cell, n) : cut(sort, cell + n);
        }

        private static int cut(int sort, int number) {
            switch (sort) {
                case MARKS:
                    return (char) number;
                case SEEDS:
                    return (short) number;
                case DAYS:
                    return (byte) number;
                default:
                    return number;
            }
        }
    }

    /**
     * Floats by their 32 bits. LANGUAGE.md leaves no library call for these, and no comparison tells
     * a 0 from a 0 with a sign, so the sign is worked out beside the float.
     */
    private static final class Water {
        private static final int MOST_WATER = 1000000;
        private static final int FRACTION_BITS = 23;
        private static final int HIDDEN_BIT = 1 << FRACTION_BITS;
        private static final int SIGN_BIT = 1 << 31;
        /** The exponent at which the fraction with its hidden bit is the number itself. */
        private static final int WHOLE = 150;
        private static final int LONGEST_SHIFT = 62;

        static int ofQuarters(int v) {
            return bitsOf(quarters(v), v < 0);
        }

        static int timesQuarters(int bits, int v) {
            return bitsOf(valueOf(bits) * quarters(v), (bits < 0) != (v < 0));
        }

        static int plus(int bits, int n) {
            float sum = valueOf(bits) + n;
            return bitsOf(sum, sum < 0);
        }

        /** Each division is by a power of two, and exact: the number is a float at the end. */
        static float valueOf(int bits) {
            int exponent = (bits >>> FRACTION_BITS) & 255;
            int fraction = bits & (HIDDEN_BIT - 1);
            float value = exponent == 0 ? (float) fraction : (float) (fraction + HIDDEN_BIT);
            for (int left = WHOLE - Math.max(exponent, 1); left > 0; left -= LONGEST_SHIFT) {
                value = value / (1L << Math.min(left, LONGEST_SHIFT));
            }
            return bits < 0 ? value * -1 : value;
        }

        private static float quarters(int v) {
            return (float) v / 4;
        }

        /**
         * The bits of the value, held within what WATER can be. The long strides only spare steps;
         * exponent 1 without the hidden bit is how the smallest floats are written.
         */
        private static int bitsOf(float value, boolean negative) {
            float scaled = value < 0 ? value * -1 : value;
            if (scaled > MOST_WATER) {
                scaled = MOST_WATER;
            }
            int exponent = WHOLE;
            for (; exponent > 16 && scaled < 128; exponent -= 16) {
                scaled = scaled * 65536;
            }
            for (; exponent > 1 && scaled < HIDDEN_BIT; exponent--) {
                scaled = scaled * 2;
            }
            int bits = ((exponent - 1) << FRACTION_BITS) + (int) scaled;
            return negative ? bits | SIGN_BIT : bits;
        }
    }
}
