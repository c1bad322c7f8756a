/** Terms: the numbers that cells of each sort can be, and what new cells are. */
public final class TermsCellsTest {
    public static void main(String[] args) {
        marksRange();
        seedsRange();
        daysRange();
        litRange();
        cutKeepsTheLowestBits();
        becomesWater();
        becomesLit();
        becomesInFurrows();
        placesFromZero();
        newCellsInRows();
        newCellsAtAnotherLength();
        newCellsAfterTake();
        newCellsInFurrows();
        newCellsInFewerAndMoreFurrows();
        Due.end();
    }

    private static TrayBench bench() {
        TrayBench x = new TrayBench();
        for (int sort = 0; sort < Due.SORTS; sort++) {
            x.lay(0, sort, 3);
        }
        return x;
    }

    /** The middle one of three cells becomes v and is the number then; the others stay. */
    private static void becomes(int sort, int v, int number) {
        TrayBench x = bench();
        String what = "sort " + sort + ", write " + v;
        Due.due(what, x.write(0, sort, 1, v), 0);
        Due.cell(what, x, 0, sort, 1, number);
        Due.cell(what, x, 0, sort, 0, 0);
        Due.cell(what, x, 0, sort, 2, 0);
    }

    private static void marksRange() {
        Due.sentence(Due.TERMS, "0 MARKS (0 .. 65535)");
        becomes(Due.MARKS, 0, 0);
        becomes(Due.MARKS, -1, 65535);
        becomes(Due.MARKS, 65535, 65535);
        becomes(Due.MARKS, 65536, 0);
        becomes(Due.MARKS, 32767, 32767);
        becomes(Due.MARKS, 32768, 32768);
    }

    private static void seedsRange() {
        Due.sentence(Due.TERMS, "1 SEEDS (-32768 .. 32767)");
        becomes(Due.SEEDS, -32768, -32768);
        becomes(Due.SEEDS, -32769, 32767);
        becomes(Due.SEEDS, 32767, 32767);
        becomes(Due.SEEDS, 32768, -32768);
        becomes(Due.SEEDS, 65535, -1);
        becomes(Due.SEEDS, -1, -1);
    }

    private static void daysRange() {
        Due.sentence(Due.TERMS, "4 DAYS (-128 .. 127)");
        becomes(Due.DAYS, -128, -128);
        becomes(Due.DAYS, -129, 127);
        becomes(Due.DAYS, 127, 127);
        becomes(Due.DAYS, 128, -128);
        becomes(Due.DAYS, 255, -1);
        becomes(Due.DAYS, -1, -1);
    }

    private static void litRange() {
        Due.sentence(Due.TERMS, "3 LIT (0 or 1)");
        becomes(Due.LIT, 0, 0);
        becomes(Due.LIT, 1, 1);
        becomes(Due.LIT, 2, 1);
        becomes(Due.LIT, -1, 1);
    }

    private static void cutKeepsTheLowestBits() {
        Due.sentence(Due.TERMS,
            "A whole number that is CUT keeps, for MARKS, SEEDS, DAYS, its lowest bits, as many as they have.");
        int[] sorts = {Due.MARKS, Due.SEEDS, Due.DAYS};
        int[][] rows = {
            {0x12345678, 0x5678, 0x5678, 0x78}, {0x89abcdef, 0xcdef, 0xcdef - 65536, 0xef - 256},
            {256, 256, 256, 0}, {-256, 65280, -256, 0}, {65537, 1, 1, 1}, {-65536, 0, 0, 0},
            {Due.MOST, 65535, -1, -1}, {Due.LEAST, 0, 0, 0}, {Due.LEAST + 1, 1, 1, 1}};
        for (int[] row : rows) {
            for (int n = 0; n < sorts.length; n++) {
                becomes(sorts[n], row[0], row[n + 1]);
            }
        }
    }

    private static void becomesWater() {
        Due.sentence(Due.TERMS, "A cell BECOMES a number v: v CUT; WATER: v / 4;");
        int[] quarters = {0, 1, -1, 2, 3, -3, 4, -4, 7, -7, 3999999, -3999999};
        for (int v : quarters) {
            becomes(Due.WATER, v, Due.bits(v / 4f));
        }
    }

    private static void becomesLit() {
        Due.sentence(Due.TERMS, "LIT: 1 if v is not 0, else 0.");
        int[] others = {256, 65536, 1 << 30, 2, -2, Due.LEAST, Due.MOST};
        for (int v : others) {
            becomes(Due.LIT, v, 1);
        }
        TrayBench x = bench();
        x.write(0, Due.LIT, 1, 5);
        Due.due("write 0", x.write(0, Due.LIT, 1, 0), 0);
        Due.cell("1, then 0", x, 0, Due.LIT, 1, 0);
    }

    private static void becomesInFurrows() {
        Due.sentence(Due.TERMS, "PLOTS 0, 1 have a SORT and FURROWS (rows of cells of that sort, or gone ones)");
        int[] v = {-1, 40000, 65536, 128, 4000001, Due.LEAST, Due.MOST};
        int[][] numbers = {
            {65535, 40000, 0, 128, 2305, 0, 65535}, {-1, -25536, 0, 128, 2305, 0, -1},
            {Due.bits(-0.25f), Due.bits(10000f), Due.bits(16384f), Due.bits(32f), Due.bits(1000000f),
                Due.bits(-1000000f), Due.bits(1000000f)},
            {1, 1, 1, 1, 1, 1, 1}, {-1, 64, 0, -128, 1, 0, -1}};
        for (int sort = 0; sort < Due.SORTS; sort++) {
            for (int plot = 0; plot < 2; plot++) {
                TrayBench x = new TrayBench();
                x.plot(plot, sort, 1, 1);
                for (int n = 0; n < v.length; n++) {
                    String what = "plot " + plot + " of sort " + sort + ", set " + v[n];
                    Due.due(what, x.set(plot, 0, 0, v[n]), 0);
                    Due.tells(what, x, x.get(plot, 0, 0), numbers[sort][n]);
                }
            }
        }
    }

    private static void placesFromZero() {
        Due.sentence(Due.TERMS, "Places are counted from 0;");
        for (int sort = 0; sort < Due.SORTS; sort++) {
            TrayBench x = new TrayBench();
            x.lay(0, sort, 1);
            x.plot(0, sort, 1, 1);
            Due.cell("the only cell", x, 0, sort, 0, 0);
            Due.due("a second cell", x.read(0, sort, 1), Due.PLACE);
            Due.tells("the only cell of the only furrow", x, x.get(0, 0, 0), 0);
            Due.due("a second cell", x.get(0, 0, 1), Due.PLACE);
            Due.due("a second furrow", x.get(0, 1, 0), Due.PLACE);
        }
    }

    private static void allZero(String what, TrayBench x, int sort, int n) {
        Due.tells(what, x, x.length(0, sort), n);
        for (int i = 0; i < n; i++) {
            Due.cell(what, x, 0, sort, i, 0);
        }
        Due.due(what + ", behind the last", x.read(0, sort, n), Due.PLACE);
    }

    private static void newCellsInRows() {
        Due.sentence(Due.TERMS, "new cells are 0.");
        for (int sort = 0; sort < Due.SORTS; sort++) {
            TrayBench x = new TrayBench();
            x.lay(0, sort, 64);
            allZero("a first row of sort " + sort, x, sort, 64);
            TrayBench y = Sample.row(sort, 64);
            Due.due("lay", y.lay(0, sort, 64), 0);
            allZero("a row over another of sort " + sort, y, sort, 64);
        }
        TrayBench z = bench();
        z.change(0, Due.WATER, 0, -4);
        Due.water("0 with a sign", z, 0, 0, -0f);
        z.lay(0, Due.WATER, 3);
        Due.water("a new 0 has none", z, 0, 0, 0f);
    }

    private static void newCellsAtAnotherLength() {
        Due.sentence(Due.TERMS, "new cells are 0.");
        for (int sort = 0; sort < Due.SORTS; sort++) {
            TrayBench x = Sample.row(sort, 6);
            x.lay(0, sort, 2);
            allZero("a shorter row of sort " + sort, x, sort, 2);
            x.write(0, sort, 1, 9);
            x.lay(0, sort, 0);
            allZero("an empty row of sort " + sort, x, sort, 0);
            x.lay(0, sort, 64);
            allZero("a longer row of sort " + sort, x, sort, 64);
        }
    }

    private static void newCellsAfterTake() {
        Due.sentence(Due.TERMS, "new cells are 0.");
        for (int sort = 0; sort < Due.SORTS; sort++) {
            TrayBench x = Sample.row(sort, 5);
            x.take(0, sort);
            x.lay(0, sort, 5);
            allZero("a row of sort " + sort + " where one was taken", x, sort, 5);
        }
    }

    private static void furrowsZero(String what, TrayBench x, int furrows, int cells) {
        Due.tells(what, x, x.furrows(0), furrows);
        for (int k = 0; k < furrows; k++) {
            for (int i = 0; i < cells; i++) {
                Due.tells(what + " " + k + " " + i, x, x.get(0, k, i), 0);
            }
            Due.due(what + ", behind the last", x.get(0, k, cells), Due.PLACE);
        }
        Due.due(what + ", behind all", x.get(0, furrows, 0), Due.PLACE);
    }

    private static TrayBench fullPlot(int sort, int furrows, int cells) {
        TrayBench x = new TrayBench();
        x.plot(0, sort, furrows, cells);
        for (int k = 0; k < furrows; k++) {
            for (int i = 0; i < cells; i++) {
                x.set(0, k, i, k + i + 1);
            }
        }
        return x;
    }

    private static void newCellsInFurrows() {
        Due.sentence(Due.TERMS, "new cells are 0.");
        for (int sort = 0; sort < Due.SORTS; sort++) {
            TrayBench x = new TrayBench();
            x.plot(0, sort, 3, 4);
            furrowsZero("first furrows of sort " + sort, x, 3, 4);
            for (int next = 0; next < Due.SORTS; next++) {
                TrayBench y = fullPlot(sort, 3, 4);
                y.lift(0, 1);
                Due.due("plot", y.plot(0, next, 3, 4), 0);
                furrowsZero("sort " + next + " over sort " + sort, y, 3, 4);
            }
        }
    }

    private static void newCellsInFewerAndMoreFurrows() {
        Due.sentence(Due.TERMS, "new cells are 0.");
        for (int sort = 0; sort < Due.SORTS; sort++) {
            TrayBench x = fullPlot(sort, 4, 4);
            x.plot(0, sort, 2, 1);
            furrowsZero("fewer furrows of sort " + sort, x, 2, 1);
            x.plot(0, sort, 0, 3);
            furrowsZero("no furrows of sort " + sort, x, 0, 3);
            x.plot(0, sort, 5, 5);
            furrowsZero("more furrows of sort " + sort, x, 5, 5);
            TrayBench y = fullPlot(sort, 2, 64);
            y.plot(0, sort, 2, 64);
            furrowsZero("64 cells of sort " + sort, y, 2, 64);
        }
    }
}
