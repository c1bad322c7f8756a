/** Promise 6: write. What each sort makes of v is in TermsCellsTest and TermsWaterTest. */
public final class Promise06WriteTest {
    public static void main(String[] args) {
        becomes();
        firstAndLastCell();
        lackedRow();
        emptyRow();
        beforeAndBehind();
        Due.end();
    }

    private static int write(TrayBench x, int tray, int sort, int i) {
        return x.write(tray, sort, i, 0);
    }

    private static void becomes() {
        Due.sentence(6, "Cell i BECOMES v.");
        int[] v = {-7, 70000, 0};
        int[][] numbers = {
            {65529, 4464, 0}, {-7, 4464, 0}, {Due.bits(-1.75f), Due.bits(17500f), 0}, {1, 1, 0}, {-7, 112, 0}};
        for (int sort = 0; sort < Due.SORTS; sort++) {
            for (int i = 0; i < 3; i++) {
                TrayBench x = Sample.bench();
                for (int n = 0; n < v.length; n++) {
                    Due.due("write", x.write(0, sort, i, v[n]), 0);
                    Due.cell("sort " + sort + ", write " + v[n], x, 0, sort, i, numbers[sort][n]);
                }
            }
        }
        TrayBench y = Sample.bench();
        y.change(0, Due.WATER, 0, 0);
        y.change(0, Due.WATER, 0, -4);
        Due.water("0 with a sign", y, 0, 0, -0f);
        y.write(0, Due.WATER, 0, 0);
        Due.water("a written 0 has none", y, 0, 0, 0f);
    }

    private static void firstAndLastCell() {
        Due.sentence(6, "Cell i BECOMES v.");
        for (int sort = 0; sort < Due.SORTS; sort++) {
            CellEdges.firstAndLast("write", sort, Promise06WriteTest::write);
            TrayBench x = Sample.row(sort, 64);
            x.write(0, sort, 0, 0);
            x.write(0, sort, 63, 0);
            Due.cell("the first", x, 0, sort, 0, 0);
            Due.cell("the last", x, 0, sort, 63, 0);
        }
    }

    private static void lackedRow() {
        Due.sentence(6, "LACK; PLACE.");
        for (int sort = 0; sort < Due.SORTS; sort++) {
            CellEdges.lackedRow("write", sort, Promise06WriteTest::write);
        }
    }

    private static void emptyRow() {
        Due.sentence(6, "LACK; PLACE.");
        for (int sort = 0; sort < Due.SORTS; sort++) {
            CellEdges.emptyRow("write", sort, Promise06WriteTest::write);
        }
    }

    private static void beforeAndBehind() {
        Due.sentence(6, "LACK; PLACE.");
        for (int sort = 0; sort < Due.SORTS; sort++) {
            CellEdges.beforeAndBehind("write", sort, Promise06WriteTest::write);
            CellEdges.behindAShortenedRow("write", sort, Promise06WriteTest::write);
        }
    }
}
