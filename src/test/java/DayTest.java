/** Promises 10 and 11: day, and where it ended. */
public final class DayTest {
    public static void main(String[] args) {
        wholeDay();
        quarters();
        water();
        lackedRows();
        shortRows();
        darkCells();
        noSeeds();
        where();
        Due.end();
    }

    /** Tray 2 with rows of n cells, all lit, with 8 seeds and 1 water in each. */
    private static TrayBench bench(int n) {
        TrayBench x = new TrayBench();
        for (int sort = 0; sort < 5; sort++) {
            x.lay(2, sort, n);
        }
        for (int i = 0; i < n; i++) {
            x.write(2, Due.SEEDS, i, 8);
            x.write(2, Due.WATER, i, 4);
            x.write(2, Due.LIT, i, 1);
        }
        return x;
    }

    private static void cells(String what, TrayBench x, int i, int marks, int seeds, float water, int days) {
        Due.cell(what + ": MARKS", x, 2, Due.MARKS, i, marks);
        Due.cell(what + ": SEEDS", x, 2, Due.SEEDS, i, seeds);
        Due.water(what + ": WATER", x, 2, i, water);
        Due.cell(what + ": DAYS", x, 2, Due.DAYS, i, days);
    }

    private static void ended(String what, TrayBench x, int cell, int sort) {
        Due.due(what + ": where(0)", x.where(0), cell);
        Due.due(what + ": where(1)", x.where(1), sort);
    }

    private static void wholeDay() {
        TrayBench x = bench(3);
        x.write(2, Due.LIT, 1, 0);
        x.write(2, Due.DAYS, 1, 9);
        x.write(2, Due.DAYS, 2, 127);
        x.write(2, Due.MARKS, 2, 65535);
        Due.tells("day", x, x.day(2), 4);
        ended("day", x, Due.NONE, Due.NONE);
        cells("lit", x, 0, 2, 6, 0f, 1);
        cells("dark", x, 1, 0, 8, 1f, 0);
        cells("CUT", x, 2, 1, 6, 0f, -128);
        Due.cell("LIT stays", x, 2, Due.LIT, 0, 1);
        Due.tells("a dry day", x, x.day(2), 0);
        cells("dry", x, 0, 2, 6, -1f, 2);
        Due.due("another tray", x.day(1), Due.LACK);
        TrayBench y = bench(64);
        Due.tells("64 cells", y, y.day(2), 128);
        cells("the last of 64", y, 63, 2, 6, 0f, 1);
    }

    private static void quarters() {
        int[] seeds = {0, 1, 3, 4, 7, 32767, -1, -3, -4, -5, -32768};
        int[] quarters = {0, 0, 0, 1, 1, 8191, -1, -1, -1, -2, -8192};
        int sum = 0;
        TrayBench x = bench(seeds.length);
        for (int i = 0; i < seeds.length; i++) {
            x.write(2, Due.SEEDS, i, seeds[i]);
            sum += quarters[i];
        }
        Due.tells("the sum of all quarters", x, x.day(2), sum);
        for (int i = 0; i < seeds.length; i++) {
            cells("a quarter of " + seeds[i], x, i, quarters[i] & 65535, seeds[i] - quarters[i], 0f, 1);
        }
    }

    private static void water() {
        int[] water = {3, 4, 5, 0, -4, 4000000, -4000000, -3999999};
        float[] then = {-0.25f, 0f, 0.25f, -1f, -2f, 999999f, -1000000f, -1000000f};
        TrayBench x = bench(water.length + 2);
        for (int i = 0; i < water.length; i++) {
            x.write(2, Due.WATER, i, water[i]);
        }
        int minus = water.length;
        int tiny = water.length + 1;
        x.write(2, Due.WATER, minus, 0);
        x.change(2, Due.WATER, minus, -4);
        for (int i = 0; i < 75; i++) {
            x.change(2, Due.WATER, tiny, 1);
        }
        Due.tells("day", x, x.day(2), 6);
        for (int i = 0; i < water.length; i++) {
            boolean wet = then[i] >= 0;
            cells("water " + water[i], x, i, wet ? 2 : 0, wet ? 6 : 8, then[i], 1);
        }
        cells("water -0", x, minus, 0, 8, -1f, 1);
        cells("hardly water", x, tiny, 0, 8, -1f, 1);
    }

    private static void lackedRows() {
        TrayBench x = bench(2);
        x.take(2, Due.LIT);
        x.take(2, Due.DAYS);
        x.take(2, Due.WATER);
        x.take(2, Due.MARKS);
        Due.tells("without LIT", x, endsWith(x, Due.LACK), 0);
        ended("without LIT", x, 0, Due.LIT);
        x.lay(2, Due.LIT, 2);
        x.write(2, Due.LIT, 1, 1);
        Due.tells("dark without DAYS", x, endsWith(x, Due.LACK), 0);
        ended("dark without DAYS", x, 0, Due.DAYS);
        x.write(2, Due.LIT, 0, 1);
        Due.tells("lit without DAYS", x, endsWith(x, Due.LACK), 0);
        ended("lit without DAYS", x, 0, Due.DAYS);
        x.lay(2, Due.DAYS, 2);
        Due.tells("without WATER", x, endsWith(x, Due.LACK), 0);
        ended("without WATER", x, 0, Due.WATER);
        Due.cell("a day was counted", x, 2, Due.DAYS, 0, 1);
        Due.cell("no seed left", x, 2, Due.SEEDS, 0, 8);
        x.lay(2, Due.WATER, 2);
        x.write(2, Due.WATER, 1, 4);
        Due.tells("cell 0 dry, cell 1 without MARKS", x, endsWith(x, Due.LACK), 2);
        ended("cell 0 dry, cell 1 without MARKS", x, 1, Due.MARKS);
        Due.cell("dry seeds stay", x, 2, Due.SEEDS, 0, 8);
        Due.cell("seeds left for nowhere", x, 2, Due.SEEDS, 1, 6);
        Due.cell("days went on", x, 2, Due.DAYS, 0, 2);
        Due.water("water went on", x, 2, 1, 0f);
        x.write(2, Due.SEEDS, 1, 3);
        x.write(2, Due.WATER, 1, 4);
        Due.tells("a quarter of 0 needs MARKS, too", x, endsWith(x, Due.LACK), 0);
        ended("a quarter of 0 needs MARKS, too", x, 1, Due.MARKS);
        x.lay(2, Due.MARKS, 2);
        x.write(2, Due.WATER, 1, 4);
        Due.tells("with all", x, x.day(2), 0);
        ended("with all", x, Due.NONE, Due.NONE);
    }

    /** The answer of day(2), as 0 if it is the one that is due. */
    private static int endsWith(TrayBench x, int fault) {
        int answer = x.day(2);
        return answer == fault ? 0 : answer + 1000;
    }

    private static void shortRows() {
        int[] sorts = {Due.MARKS, Due.WATER, Due.LIT, Due.DAYS};
        for (int sort : sorts) {
            for (int n = 0; n < 3; n++) {
                TrayBench x = bench(3);
                x.lay(2, sort, n);
                for (int i = 0; i < n; i++) {
                    x.write(2, sort, i, 4);
                }
                String what = n + " cells of sort " + sort;
                Due.tells(what, x, endsWith(x, Due.PLACE), 2 * n + (sort == Due.MARKS ? 2 : 0));
                ended(what, x, n, sort);
                Due.cell(what, x, 2, Due.SEEDS, n, sort == Due.MARKS ? 6 : 8);
                if (sort != Due.DAYS) {
                    Due.cell(what, x, 2, Due.DAYS, n, sort == Due.LIT ? 0 : 1);
                }
                if (sort != Due.WATER) {
                    Due.water(what, x, 2, n, sort == Due.MARKS ? 0f : 1f);
                }
                for (int i = 0; i < n; i++) {
                    Due.cell(what, x, 2, Due.SEEDS, i, 6);
                }
            }
        }
        TrayBench longer = bench(3);
        longer.lay(2, Due.SEEDS, 2);
        Due.tells("longer rows", longer, longer.day(2), 0);
        Due.cell("no day behind the seeds", longer, 2, Due.DAYS, 2, 0);
        Due.cell("a day over the seeds", longer, 2, Due.DAYS, 1, 1);
    }

    private static void darkCells() {
        TrayBench x = bench(2);
        x.take(2, Due.MARKS);
        x.take(2, Due.WATER);
        x.write(2, Due.LIT, 0, 0);
        x.write(2, Due.LIT, 1, 0);
        x.write(2, Due.DAYS, 1, -5);
        Due.tells("dark cells need neither WATER nor MARKS", x, x.day(2), 0);
        Due.cell("DAYS of the dark", x, 2, Due.DAYS, 1, 0);
        ended("dark cells", x, Due.NONE, Due.NONE);
    }

    private static void noSeeds() {
        TrayBench x = new TrayBench();
        x.lay(0, 0, 7);
        x.length(0, 0);
        Due.due("without SEEDS", x.day(2), Due.LACK);
        Due.due("nothing told", x.told(), 7);
        ended("without SEEDS", x, 0, Due.SEEDS);
        x.lay(2, Due.SEEDS, 0);
        Due.tells("no cells of SEEDS", x, x.day(2), 0);
        ended("no cells of SEEDS", x, Due.NONE, Due.NONE);
        TrayBench y = bench(1);
        y.take(2, Due.SEEDS);
        Due.due("without SEEDS, with all else", y.day(2), Due.LACK);
        Due.cell("nothing was done", y, 2, Due.DAYS, 0, 0);
    }

    private static void where() {
        TrayBench x = new TrayBench();
        int[] wrong = {-1, 2, 3, Integer.MIN_VALUE, Integer.MAX_VALUE};
        ended("ahead of all days", x, Due.NONE, Due.NONE);
        x.lay(1, Due.SEEDS, 2);
        x.lay(1, Due.LIT, 1);
        x.lay(1, Due.DAYS, 2);
        x.length(1, Due.LIT);
        Due.due("day", x.day(1), Due.PLACE);
        ended("day", x, 1, Due.LIT);
        int[] noTray = {-1, 4, Integer.MIN_VALUE, Integer.MAX_VALUE};
        for (int tray : noTray) {
            Due.due("day of no tray", x.day(tray), Due.NONE);
        }
        Due.due("told stays", x.told(), 0);
        ended("a day that answered NONE", x, 1, Due.LIT);
        for (int what : wrong) {
            Due.due("where(" + what + ")", x.where(what), Due.NONE);
        }
        x.lay(1, Due.LIT, 2);
        x.take(1, Due.SEEDS);
        x.read(1, Due.SEEDS, 0);
        ended("other calls", x, 1, Due.LIT);
        Due.due("where tells nothing", x.told(), 2);
        x.lay(1, Due.SEEDS, 2);
        Due.due("day", x.day(1), 0);
        ended("a whole day", x, Due.NONE, Due.NONE);
        Due.due("day", x.day(3), Due.LACK);
        ended("the latest day counts", x, 0, Due.SEEDS);
    }
}
