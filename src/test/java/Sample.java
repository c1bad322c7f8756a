/** Objects that calls are tried on, and a look at all that an object holds. */
final class Sample {
    /** What told() answers of bench(). */
    static final int TOLD = 77;
    /** Becomes another number in each sort, so it shows of which sort a furrow is. */
    private static final int SHOWS_SORT = 40000;

    private Sample() {
    }

    /**
     * Tray 0 has rows of 3 cells, tray 1 empty rows, tray 2 lacks all, tray 3 has rows of 2 cells but
     * 1 of LIT, which ended the latest day. Plot 0 is of SEEDS, with 3 furrows of 2 cells, the middle
     * one gone; plot 1 is of MARKS, with 2 furrows of 3 cells.
     */
    static TrayBench bench() {
        TrayBench x = new TrayBench();
        for (int sort = 0; sort < Due.SORTS; sort++) {
            x.lay(0, sort, 3);
            x.lay(1, sort, 0);
            x.lay(3, sort, sort == Due.LIT ? 1 : 2);
            for (int i = 0; i < 3; i++) {
                x.write(0, sort, i, sort == Due.LIT ? i % 2 : 10 * sort + i + 5);
                x.write(3, sort, i, -10 * sort - i - 5);
            }
        }
        furrows(x, 0, Due.SEEDS, 3, 2);
        furrows(x, 1, Due.MARKS, 2, 3);
        x.lift(0, 1);
        x.day(3);
        x.write(0, Due.SEEDS, 2, TOLD);
        x.read(0, Due.SEEDS, 2);
        return x;
    }

    private static void furrows(TrayBench x, int plot, int sort, int furrows, int cells) {
        x.plot(plot, sort, furrows, cells);
        for (int k = 0; k < furrows; k++) {
            for (int i = 0; i < cells; i++) {
                x.set(plot, k, i, 100 * plot + 10 * k + i + 1);
            }
        }
    }

    /** Tray 0 has a row of n cells of the sort, of which cell i became i + 1; 77 was told. */
    static TrayBench row(int sort, int n) {
        TrayBench x = new TrayBench();
        x.lay(0, sort, 1);
        x.lay(3, Due.SEEDS, 1);
        x.write(3, Due.SEEDS, 0, TOLD);
        x.read(3, Due.SEEDS, 0);
        x.lay(0, sort, n);
        for (int i = 0; i < n; i++) {
            x.write(0, sort, i, i + 1);
        }
        return x;
    }

    /**
     * Plot 0 is of the sort, with 3 furrows of 2 cells, the middle one gone; tray 0 has 2 cells of
     * SEEDS, tray 1 none; 77 was told.
     */
    static TrayBench plotOf(int sort) {
        TrayBench x = new TrayBench();
        furrows(x, 0, sort, 3, 2);
        x.lift(0, 1);
        x.lay(0, Due.SEEDS, 2);
        x.lay(1, Due.SEEDS, 0);
        x.write(0, Due.SEEDS, 1, 5);
        x.write(0, Due.SEEDS, 0, TOLD);
        x.read(0, Due.SEEDS, 0);
        return x;
    }

    /** Plot 0 is of the sort, with so many furrows of so many cells, all 0; as plotOf() else. */
    static TrayBench plotOf(int sort, int furrows, int cells) {
        TrayBench x = plotOf(sort);
        x.plot(0, sort, furrows, cells);
        return x;
    }

    /** Which part of rest(), between its semicolons, is the tray's row. */
    static int rowPart(int tray, int sort) {
        return 1 + tray * Due.SORTS + sort;
    }

    static int plotPart(int plot) {
        return 1 + 4 * Due.SORTS + plot;
    }

    /** All that calls can learn of the object but told(), which the calls for it change. */
    static String rest(TrayBench x) {
        StringBuilder text = new StringBuilder();
        text.append(" where ").append(x.where(0)).append(' ').append(x.where(1));
        for (int tray = 0; tray < 4; tray++) {
            for (int sort = 0; sort < Due.SORTS; sort++) {
                row(text, x, tray, sort);
            }
        }
        for (int plot = 0; plot < 2; plot++) {
            plot(text, x, plot);
        }
        return text.toString();
    }

    private static void row(StringBuilder text, TrayBench x, int tray, int sort) {
        text.append("; tray ").append(tray).append(" sort ").append(sort);
        int answer = x.length(tray, sort);
        if (answer != 0) {
            text.append(" answers ").append(answer);
            return;
        }
        int n = x.told();
        text.append(" has ").append(n).append(':');
        for (int i = 0; i < n; i++) {
            answer = x.read(tray, sort, i);
            text.append(' ').append(answer == 0 ? x.told() : "answers " + answer);
        }
    }

    private static void plot(StringBuilder text, TrayBench x, int plot) {
        text.append("; plot ").append(plot);
        int answer = x.furrows(plot);
        if (answer == 0) {
            int n = x.told();
            text.append(" has ").append(n).append(':');
            for (int k = 0; k < n; k++) {
                furrow(text, x, plot, k);
            }
        } else {
            text.append(" answers ").append(answer);
        }
        text.append(" sow answers ").append(x.sow(plot, -1, 0, 0, 0));
    }

    private static void furrow(StringBuilder text, TrayBench x, int plot, int k) {
        text.append(" furrow ").append(k).append(':');
        int answer = x.get(plot, k, 0);
        int i = 0;
        while (answer == 0 && i < 65) {
            text.append(' ').append(x.told());
            i++;
            answer = x.get(plot, k, i);
        }
        text.append(" then ").append(answer);
        if (i > 0) {
            x.set(plot, k, 0, SHOWS_SORT);
            x.get(plot, k, 0);
            text.append(" shows ").append(x.told());
        }
    }
}
