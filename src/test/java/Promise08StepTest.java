/** Promise 8: step. How WATER is rounded and held is in TermsWaterTest. */
public final class Promise08StepTest {
    private static final int[] STEPPED = {Due.MARKS, Due.SEEDS, Due.WATER, Due.DAYS};

    public static void main(String[] args) {
        oneMore();
        cut();
        waterOneMore();
        noneForLit();
        noneForLitAheadOfFaults();
        firstAndLastCell();
        lackedRow();
        emptyRow();
        beforeAndBehind();
        Due.end();
    }

    private static void steps(int sort, int from, int to) {
        TrayBench x = new TrayBench();
        x.lay(1, sort, 3);
        x.write(1, sort, 1, from);
        String what = "sort " + sort + ", a step from " + from;
        Due.due(what, x.step(1, sort, 1), 0);
        Due.cell(what, x, 1, sort, 1, to);
        Due.cell(what + ", before", x, 1, sort, 0, 0);
        Due.cell(what + ", behind", x, 1, sort, 2, 0);
    }

    private static void oneMore() {
        Due.sentence(8, "Cell i is 1 more (CUT).");
        steps(Due.MARKS, 0, 1);
        steps(Due.MARKS, 65534, 65535);
        steps(Due.SEEDS, -1, 0);
        steps(Due.SEEDS, -32768, -32767);
        steps(Due.SEEDS, 32766, 32767);
        steps(Due.DAYS, -1, 0);
        steps(Due.DAYS, -128, -127);
        steps(Due.DAYS, 126, 127);
    }

    private static void cut() {
        Due.sentence(8, "Cell i is 1 more (CUT).");
        steps(Due.MARKS, 65535, 0);
        steps(Due.SEEDS, 32767, -32768);
        steps(Due.DAYS, 127, -128);
    }

    private static void waterOneMore() {
        Due.sentence(8, "Cell i is 1 more (CUT).");
        steps(Due.WATER, 0, Due.bits(1f));
        steps(Due.WATER, 7, Due.bits(2.75f));
        steps(Due.WATER, -3, Due.bits(0.25f));
        steps(Due.WATER, -4, Due.bits(0f));
        steps(Due.WATER, -5, Due.bits(-0.25f));
        steps(Due.WATER, -4000000, Due.bits(-999999f));
        steps(Due.WATER, 4000000, Due.bits(1000000f));
        TrayBench x = new TrayBench();
        x.lay(1, Due.WATER, 1);
        x.change(1, Due.WATER, 0, -4);
        x.step(1, Due.WATER, 0);
        Due.water("a step from 0 with a sign", x, 1, 0, 1f);
    }

    private static void noneForLit() {
        Due.sentence(8, "NONE for LIT.");
        for (int i = 0; i < 3; i++) {
            int place = i;
            Due.refused("a step of LIT", Sample::bench, x -> x.step(0, Due.LIT, place), Due.NONE);
        }
        Due.refused("the last of 64", () -> Sample.row(Due.LIT, 64), x -> x.step(0, Due.LIT, 63), Due.NONE);
    }

    private static void noneForLitAheadOfFaults() {
        Due.sentence(8, "NONE for LIT.");
        int[] places = {-1, 0, 3, 64, Due.LEAST, Due.MOST};
        for (int i : places) {
            Due.refused("of a row of 3", Sample::bench, x -> x.step(0, Due.LIT, i), Due.NONE);
            Due.refused("of an empty row", Sample::bench, x -> x.step(1, Due.LIT, i), Due.NONE);
            Due.refused("of a lacked row", Sample::bench, x -> x.step(2, Due.LIT, i), Due.NONE);
            Due.refused("of a new object's row", TrayBench::new, x -> x.step(0, Due.LIT, i), Due.NONE);
            Due.refused("of no tray", Sample::bench, x -> x.step(4, Due.LIT, i), Due.NONE);
        }
    }

    private static void firstAndLastCell() {
        Due.sentence(8, "Cell i is 1 more (CUT).");
        for (int sort : STEPPED) {
            CellEdges.firstAndLast("step", sort, TrayBench::step);
            TrayBench x = Sample.row(sort, 64);
            x.step(0, sort, 0);
            x.step(0, sort, 63);
            Due.cell("the first", x, 0, sort, 0, sort == Due.WATER ? Due.bits(1.25f) : 2);
            Due.cell("the last", x, 0, sort, 63, sort == Due.WATER ? Due.bits(17f) : 65);
        }
    }

    private static void lackedRow() {
        Due.sentence(8, "LACK; PLACE.");
        for (int sort : STEPPED) {
            CellEdges.lackedRow("step", sort, TrayBench::step);
        }
    }

    private static void emptyRow() {
        Due.sentence(8, "LACK; PLACE.");
        for (int sort : STEPPED) {
            CellEdges.emptyRow("step", sort, TrayBench::step);
        }
    }

    private static void beforeAndBehind() {
        Due.sentence(8, "LACK; PLACE.");
        for (int sort : STEPPED) {
            CellEdges.beforeAndBehind("step", sort, TrayBench::step);
            CellEdges.behindAShortenedRow("step", sort, TrayBench::step);
        }
    }
}
