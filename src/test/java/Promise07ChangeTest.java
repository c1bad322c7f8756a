/** Promise 7: change. How WATER is rounded and held is in TermsWaterTest. */
public final class Promise07ChangeTest {
    public static void main(String[] args) {
        marks();
        seeds();
        days();
        daysShiftedByFiveBits();
        water();
        waterTimesAFloat();
        zeroHasTheSign();
        lit();
        firstAndLastCell();
        lackedRow();
        emptyRow();
        beforeAndBehind();
        Due.end();
    }

    private static int change(TrayBench x, int tray, int sort, int i) {
        return x.change(tray, sort, i, 3);
    }

    private static void changes(int sort, int from, int v, int to) {
        TrayBench x = new TrayBench();
        x.lay(1, sort, 3);
        x.write(1, sort, 1, from);
        String what = "sort " + sort + ", " + from + " changed by " + v;
        Due.due(what, x.change(1, sort, 1, v), 0);
        Due.cell(what, x, 1, sort, 1, to);
        Due.cell(what + ", before", x, 1, sort, 0, 0);
        Due.cell(what + ", behind", x, 1, sort, 2, 0);
    }

    private static void marks() {
        Due.sentence(7, "MARKS: v more.");
        changes(Due.MARKS, 5, 3, 8);
        changes(Due.MARKS, 5, 0, 5);
        changes(Due.MARKS, 5, -5, 0);
        changes(Due.MARKS, 5, -6, 65535);
        changes(Due.MARKS, 0, -1, 65535);
        changes(Due.MARKS, 65534, 1, 65535);
        changes(Due.MARKS, 65535, 1, 0);
        changes(Due.MARKS, 65535, 65536, 65535);
        changes(Due.MARKS, 65535, Due.MOST, 65534);
        changes(Due.MARKS, 1, Due.LEAST, 1);
    }

    private static void seeds() {
        Due.sentence(7, "SEEDS: v less.");
        changes(Due.SEEDS, 5, 3, 2);
        changes(Due.SEEDS, 5, 0, 5);
        changes(Due.SEEDS, 5, -3, 8);
        changes(Due.SEEDS, 0, 1, -1);
        changes(Due.SEEDS, -32767, 1, -32768);
        changes(Due.SEEDS, -32768, 1, 32767);
        changes(Due.SEEDS, 32766, -1, 32767);
        changes(Due.SEEDS, 32767, -1, -32768);
        changes(Due.SEEDS, -2, Due.MOST, -1);
        changes(Due.SEEDS, -1, Due.LEAST, -1);
    }

    private static void days() {
        Due.sentence(7, "(All CUT.)");
        changes(Due.DAYS, 63, 1, 126);
        changes(Due.DAYS, 64, 1, -128);
        changes(Due.DAYS, 127, 1, -2);
        changes(Due.DAYS, 3, 6, -64);
        changes(Due.DAYS, 3, 7, -128);
        changes(Due.DAYS, -64, 1, -128);
        changes(Due.DAYS, -65, 1, 126);
        changes(Due.DAYS, -128, 1, 0);
        changes(Due.DAYS, -3, 2, -12);
        changes(Due.DAYS, -1, 7, -128);
        changes(Due.DAYS, -1, 8, 0);
    }

    private static void daysShiftedByFiveBits() {
        Due.sentence(7, "DAYS: shifted up by the lowest five bits of v.");
        changes(Due.DAYS, 3, 0, 3);
        changes(Due.DAYS, 3, 1, 6);
        changes(Due.DAYS, 3, 2, 12);
        changes(Due.DAYS, 3, 7, -128);
        changes(Due.DAYS, 3, 8, 0);
        changes(Due.DAYS, 3, 9, 0);
        changes(Due.DAYS, 3, 16, 0);
        changes(Due.DAYS, 3, 31, 0);
        changes(Due.DAYS, 3, 32, 3);
        changes(Due.DAYS, 3, 33, 6);
        changes(Due.DAYS, 3, 63, 0);
        changes(Due.DAYS, 3, 64, 3);
        changes(Due.DAYS, 3, 66, 12);
        changes(Due.DAYS, 3, -1, 0);
        changes(Due.DAYS, 3, -31, 6);
        changes(Due.DAYS, 3, -32, 3);
        changes(Due.DAYS, 3, -30, 12);
        changes(Due.DAYS, 3, Due.LEAST, 3);
        changes(Due.DAYS, 3, Due.LEAST + 1, 6);
        changes(Due.DAYS, 3, Due.MOST, 0);
    }

    private static void waters(int from, int v, float to) {
        changes(Due.WATER, from, v, Due.bits(to));
    }

    private static void water() {
        Due.sentence(7, "WATER: times v / 4 (as a float; 0 has the sign of the product).");
        waters(7, 3, 1.3125f);
        waters(7, -3, -1.3125f);
        waters(-7, 3, -1.3125f);
        waters(-7, -3, 1.3125f);
        waters(7, 4, 1.75f);
        waters(7, 1, 0.4375f);
        waters(1, 1, 0.0625f);
        waters(4, 4000000, 1000000f);
    }

    private static void waterTimesAFloat() {
        Due.sentence(7, "WATER: times v / 4 (as a float; 0 has the sign of the product).");
        // v / 4 is rounded to a float, but only the cell is held within 1000000
        waters(1, 8000000, 500000f);
        waters(1, -8000000, -500000f);
        waters(-2, 4000004, -500000.5f);
        // 16777217 becomes 16777216 as a float, and 16777219 becomes 16777220, ahead of the product
        timesFloat(16777217, 50331648f);
        timesFloat(16777219, 50331660f);
        timesFloat(-16777217, -50331648f);
        timesFloat(-16777219, -50331660f);
    }

    /** 3 / 256 times v / 4 is due to be number / 1024. */
    private static void timesFloat(int v, float number) {
        TrayBench x = new TrayBench();
        x.lay(1, Due.WATER, 1);
        x.write(1, Due.WATER, 0, 3);
        for (int n = 0; n < 3; n++) {
            x.change(1, Due.WATER, 0, 1);
        }
        x.change(1, Due.WATER, 0, v);
        Due.water("3 / 256 times " + v + " / 4", x, 1, 0, number / 1024);
    }

    private static void zeroHasTheSign() {
        Due.sentence(7, "WATER: times v / 4 (as a float; 0 has the sign of the product).");
        waters(0, 0, 0f);
        waters(0, 1, 0f);
        waters(0, -1, -0f);
        waters(0, Due.LEAST, -0f);
        waters(0, Due.MOST, 0f);
        waters(7, 0, 0f);
        waters(-7, 0, -0f);
        waters(4000000, 0, 0f);
        waters(-4000000, 0, -0f);
        minusZeroTimes(4, -0f);
        minusZeroTimes(0, -0f);
        minusZeroTimes(-4, 0f);
        tooSmall(4, 1, 0f);
        tooSmall(4, -1, -0f);
        tooSmall(-4, 1, -0f);
        tooSmall(-4, -1, 0f);
    }

    private static void minusZeroTimes(int v, float number) {
        TrayBench x = new TrayBench();
        x.lay(1, Due.WATER, 1);
        x.change(1, Due.WATER, 0, -4);
        Due.water("0 times -1", x, 1, 0, -0f);
        x.change(1, Due.WATER, 0, v);
        Due.water("that times " + v + " / 4", x, 1, 0, number);
    }

    /** from / 4 is made so small that a quarter of it is no float but 0. */
    private static void tooSmall(int from, int v, float number) {
        TrayBench x = new TrayBench();
        x.lay(1, Due.WATER, 1);
        x.write(1, Due.WATER, 0, from);
        for (int n = 0; n < 74; n++) {
            x.change(1, Due.WATER, 0, 1);
        }
        Due.water("2 to the -148", x, 1, 0, from / 4 * 2 * Float.MIN_VALUE);
        x.change(1, Due.WATER, 0, v);
        Due.water("that times " + v + " / 4", x, 1, 0, number);
    }

    private static void lit() {
        Due.sentence(7, "LIT: the other one if v is not 0.");
        changes(Due.LIT, 0, 0, 0);
        changes(Due.LIT, 1, 0, 1);
        int[] others = {1, 2, -1, 256, 65536, Due.LEAST, Due.MOST};
        for (int v : others) {
            changes(Due.LIT, 0, v, 1);
            changes(Due.LIT, 1, v, 0);
        }
    }

    private static void firstAndLastCell() {
        Due.sentence(7, "Cell i is worked with v.");
        int[] firsts = {4, -2, Due.bits(0.1875f), 0, 8};
        int[] lasts = {67, 61, Due.bits(12f), 0, 0};
        for (int sort = 0; sort < Due.SORTS; sort++) {
            CellEdges.firstAndLast("change", sort, Promise07ChangeTest::change);
            TrayBench x = Sample.row(sort, 64);
            change(x, 0, sort, 0);
            change(x, 0, sort, 63);
            Due.cell("the first", x, 0, sort, 0, firsts[sort]);
            Due.cell("the last", x, 0, sort, 63, lasts[sort]);
        }
    }

    private static void lackedRow() {
        Due.sentence(7, "LACK; PLACE.");
        for (int sort = 0; sort < Due.SORTS; sort++) {
            CellEdges.lackedRow("change", sort, Promise07ChangeTest::change);
        }
    }

    private static void emptyRow() {
        Due.sentence(7, "LACK; PLACE.");
        for (int sort = 0; sort < Due.SORTS; sort++) {
            CellEdges.emptyRow("change", sort, Promise07ChangeTest::change);
        }
    }

    private static void beforeAndBehind() {
        Due.sentence(7, "LACK; PLACE.");
        for (int sort = 0; sort < Due.SORTS; sort++) {
            CellEdges.beforeAndBehind("change", sort, Promise07ChangeTest::change);
            CellEdges.behindAShortenedRow("change", sort, Promise07ChangeTest::change);
        }
    }
}
