/** Promises 6 to 8: what write, change and step make of a cell of each sort. */
public final class CellsTest {
    private static final int LEAST = Integer.MIN_VALUE;
    private static final int MOST = Integer.MAX_VALUE;

    public static void main(String[] args) {
        writeCuts();
        writeWater();
        changeMarks();
        changeSeeds();
        changeDays();
        changeLit();
        changeWater();
        waterToNothing();
        waterRounds();
        step();
        faults();
        Due.end();
    }

    private static TrayBench bench() {
        TrayBench x = new TrayBench();
        for (int sort = 0; sort < 5; sort++) {
            x.lay(1, sort, 3);
        }
        return x;
    }

    private static void writeCuts() {
        TrayBench x = bench();
        int[] numbers = {0, 1, -1, 127, 128, -128, -129, 255, 256, 32767, 32768, -32768, -32769, 65535, 65536,
            65537, -65536, LEAST, MOST};
        for (int v : numbers) {
            for (int sort = 0; sort < 5; sort++) {
                Due.due("write", x.write(1, sort, 1, v), 0);
            }
            Due.cell("MARKS " + v, x, 1, Due.MARKS, 1, v & 65535);
            Due.cell("SEEDS " + v, x, 1, Due.SEEDS, 1, (short) v);
            Due.cell("LIT " + v, x, 1, Due.LIT, 1, v == 0 ? 0 : 1);
            Due.cell("DAYS " + v, x, 1, Due.DAYS, 1, (byte) v);
        }
        for (int sort = 0; sort < 5; sort++) {
            Due.cell("the cell before", x, 1, sort, 0, 0);
            Due.cell("the cell behind", x, 1, sort, 2, 0);
        }
    }

    private static void writeWater() {
        TrayBench x = bench();
        writes(x, 0, 0f);
        writes(x, 1, 0.25f);
        writes(x, -1, -0.25f);
        writes(x, 7, 1.75f);
        writes(x, -4, -1f);
        writes(x, 3999999, 999999.75f);
        writes(x, 4000000, 1000000f);
        writes(x, 4000001, 1000000f);
        writes(x, -3999999, -999999.75f);
        writes(x, -4000000, -1000000f);
        writes(x, -4000001, -1000000f);
        writes(x, MOST, 1000000f);
        writes(x, LEAST, -1000000f);
    }

    private static void writes(TrayBench x, int v, float number) {
        Due.due("write WATER " + v, x.write(1, Due.WATER, 2, v), 0);
        Due.water("WATER " + v, x, 1, 2, number);
    }

    private static void changes(TrayBench x, int sort, int from, int v, int to) {
        x.write(1, sort, 2, from);
        Due.due("change", x.change(1, sort, 2, v), 0);
        Due.cell("sort " + sort + ", " + from + " changed by " + v, x, 1, sort, 2, to);
    }

    private static void changeMarks() {
        TrayBench x = bench();
        changes(x, Due.MARKS, 5, 3, 8);
        changes(x, Due.MARKS, 5, -5, 0);
        changes(x, Due.MARKS, 5, -6, 65535);
        changes(x, Due.MARKS, 65535, 1, 0);
        changes(x, Due.MARKS, 65535, MOST, 65534);
        changes(x, Due.MARKS, 1, LEAST, 1);
    }

    private static void changeSeeds() {
        TrayBench x = bench();
        changes(x, Due.SEEDS, 5, 3, 2);
        changes(x, Due.SEEDS, 5, -3, 8);
        changes(x, Due.SEEDS, -32768, 1, 32767);
        changes(x, Due.SEEDS, 32767, -1, -32768);
        changes(x, Due.SEEDS, -2, MOST, -1);
        changes(x, Due.SEEDS, -1, LEAST, -1);
    }

    private static void changeDays() {
        TrayBench x = bench();
        changes(x, Due.DAYS, 3, 0, 3);
        changes(x, Due.DAYS, 3, 1, 6);
        changes(x, Due.DAYS, 3, 6, -64);
        changes(x, Due.DAYS, 3, 7, -128);
        changes(x, Due.DAYS, 3, 8, 0);
        changes(x, Due.DAYS, 3, 31, 0);
        changes(x, Due.DAYS, 3, 32, 3);
        changes(x, Due.DAYS, 3, 33, 6);
        changes(x, Due.DAYS, 3, -31, 6);
        changes(x, Due.DAYS, 3, -1, 0);
        changes(x, Due.DAYS, -3, 2, -12);
        changes(x, Due.DAYS, -128, 1, 0);
        changes(x, Due.DAYS, 3, LEAST, 3);
    }

    private static void changeLit() {
        TrayBench x = bench();
        changes(x, Due.LIT, 0, 0, 0);
        changes(x, Due.LIT, 1, 0, 1);
        changes(x, Due.LIT, 0, 1, 1);
        changes(x, Due.LIT, 1, 1, 0);
        changes(x, Due.LIT, 0, 2, 1);
        changes(x, Due.LIT, 1, LEAST, 0);
        changes(x, Due.LIT, 0, 256, 1);
    }

    private static void waters(TrayBench x, int from, int v, float to) {
        changes(x, Due.WATER, from, v, Float.floatToRawIntBits(to));
    }

    private static void changeWater() {
        TrayBench x = bench();
        waters(x, 7, 3, 1.3125f);
        waters(x, 7, -3, -1.3125f);
        waters(x, -7, -3, 1.3125f);
        waters(x, 7, 0, 0f);
        waters(x, -7, 0, -0f);
        waters(x, 0, -1, -0f);
        waters(x, 0, 1, 0f);
        waters(x, 0, 0, 0f);
        waters(x, 4000, 4000, 1000000f);
        waters(x, 4000, 4001, 1000000f);
        waters(x, -4000, 4001, -1000000f);
        waters(x, 4000, -4001, -1000000f);
        waters(x, 4000000, MOST, 1000000f);
        waters(x, 4000000, LEAST, -1000000f);
        waters(x, -4000000, LEAST, 1000000f);
        // the factor is a float, but is not held at 1000000
        waters(x, 1, 8000000, 500000f);
        waters(x, 1, -8000000, -500000f);
        x.write(1, Due.WATER, 0, 0);
        x.change(1, Due.WATER, 0, -4);
        x.change(1, Due.WATER, 0, 4);
        Due.water("-0 times 1", x, 1, 0, -0f);
        x.change(1, Due.WATER, 0, 0);
        Due.water("-0 times 0", x, 1, 0, -0f);
        x.change(1, Due.WATER, 0, -4);
        Due.water("-0 times -1", x, 1, 0, 0f);
        x.change(1, Due.WATER, 0, -4);
        x.write(1, Due.WATER, 0, 0);
        Due.water("a written 0 has no sign", x, 1, 0, 0f);
    }

    /** A quarter each time leads through the smallest floats down to 0, with the product's sign. */
    private static void waterToNothing() {
        TrayBench x = bench();
        x.write(1, Due.WATER, 0, 3999999);
        x.write(1, Due.WATER, 1, -5);
        float first = 999999.75f;
        float second = -1.25f;
        for (int i = 0; i < 90; i++) {
            first *= 0.25f;
            second *= 0.75f * (i % 2 == 0 ? 1 : -1);
            x.change(1, Due.WATER, 0, 1);
            x.change(1, Due.WATER, 1, i % 2 == 0 ? 3 : -3);
            Due.water("a quarter", x, 1, 0, first);
        }
        Due.due("the model came down to 0", first == 0f ? 1 : 0, 1);
        Due.water("three quarters", x, 1, 1, second);
    }

    private static void waterRounds() {
        TrayBench x = bench();
        // 16777217 and 16777219 are halfway between floats: the even ones are 1 below and 1 above
        x.write(1, Due.WATER, 0, 1);
        x.change(1, Due.WATER, 0, 1);
        x.change(1, Due.WATER, 0, 1);
        x.change(1, Due.WATER, 0, 1);
        x.change(1, Due.WATER, 0, 1);
        x.change(1, Due.WATER, 0, 16777217);
        Due.water("the factor is rounded to the even one", x, 1, 0, 4096f);
        x.write(1, Due.WATER, 0, 1);
        for (int i = 0; i < 4; i++) {
            x.change(1, Due.WATER, 0, 1);
        }
        x.change(1, Due.WATER, 0, 16777219);
        Due.water("the factor is rounded to the even one", x, 1, 0, 4096f + 4f / 4096f);
        // 2^-24 + 1 is halfway between 1 and the next float
        x.write(1, Due.WATER, 0, 4);
        for (int i = 0; i < 12; i++) {
            x.change(1, Due.WATER, 0, 1);
        }
        Due.water("2^-24", x, 1, 0, 1f / 16777216f);
        x.step(1, Due.WATER, 0);
        Due.water("1 + 2^-24", x, 1, 0, 1f);
        x.write(1, Due.WATER, 0, 12);
        for (int i = 0; i < 12; i++) {
            x.change(1, Due.WATER, 0, 1);
        }
        x.step(1, Due.WATER, 0);
        Due.water("1 + 3 * 2^-24", x, 1, 0, 1f + 4f / 16777216f);
    }

    private static void steps(TrayBench x, int sort, int from, int to) {
        x.write(1, sort, 0, from);
        Due.due("step", x.step(1, sort, 0), 0);
        Due.cell("sort " + sort + ", a step from " + from, x, 1, sort, 0, to);
    }

    private static void step() {
        TrayBench x = bench();
        steps(x, Due.MARKS, 0, 1);
        steps(x, Due.MARKS, 65535, 0);
        steps(x, Due.SEEDS, -1, 0);
        steps(x, Due.SEEDS, 32767, -32768);
        steps(x, Due.DAYS, 126, 127);
        steps(x, Due.DAYS, 127, -128);
        steps(x, Due.WATER, 7, Float.floatToRawIntBits(2.75f));
        steps(x, Due.WATER, -4, 0);
        steps(x, Due.WATER, -3, Float.floatToRawIntBits(0.25f));
        steps(x, Due.WATER, 4000000, Float.floatToRawIntBits(1000000f));
        steps(x, Due.WATER, 3999998, Float.floatToRawIntBits(1000000f));
        steps(x, Due.WATER, -4000000, Float.floatToRawIntBits(-999999f));
        x.write(1, Due.WATER, 0, 0);
        x.change(1, Due.WATER, 0, -1);
        x.step(1, Due.WATER, 0);
        Due.water("a step from -0", x, 1, 0, 1f);
        x.write(1, Due.LIT, 0, 0);
        Due.due("a step of LIT", x.step(1, Due.LIT, 0), Due.NONE);
        Due.cell("LIT stays", x, 1, Due.LIT, 0, 0);
    }

    private static void faults() {
        TrayBench x = bench();
        x.length(1, 0);
        int[] outside = {-1, 3, 64, LEAST, MOST};
        for (int sort = 0; sort < 5; sort++) {
            for (int i : outside) {
                Due.due("write LACK", x.write(0, sort, i, 1), Due.LACK);
                Due.due("write PLACE", x.write(1, sort, i, 1), Due.PLACE);
                Due.due("change LACK", x.change(0, sort, i, 1), Due.LACK);
                Due.due("change PLACE", x.change(1, sort, i, 1), Due.PLACE);
                Due.due("step LACK", x.step(0, sort, i), sort == Due.LIT ? Due.NONE : Due.LACK);
                Due.due("step PLACE", x.step(1, sort, i), sort == Due.LIT ? Due.NONE : Due.PLACE);
            }
        }
        int[] noTray = {-1, 4, LEAST, MOST};
        int[] noSort = {-1, 5, LEAST, MOST};
        for (int n = 0; n < 4; n++) {
            Due.due("write NONE", x.write(noTray[n], 0, 9, 1), Due.NONE);
            Due.due("write NONE", x.write(1, noSort[n], 9, 1), Due.NONE);
            Due.due("change NONE", x.change(noTray[n], 0, 9, 1), Due.NONE);
            Due.due("change NONE", x.change(1, noSort[n], 9, 1), Due.NONE);
            Due.due("step NONE", x.step(noTray[n], 0, 9), Due.NONE);
            Due.due("step NONE", x.step(1, noSort[n], 9), Due.NONE);
        }
        Due.due("nothing was told", x.told(), 3);
        for (int sort = 0; sort < 5; sort++) {
            for (int i = 0; i < 3; i++) {
                Due.cell("nothing was done", x, 1, sort, i, 0);
            }
        }
    }
}
