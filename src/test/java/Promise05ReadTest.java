/** Promise 5: read. */
public final class Promise05ReadTest {
    public static void main(String[] args) {
        tellsTheCell();
        tellsTheBitsOfWater();
        lackedRow();
        emptyRow();
        beforeAndBehind();
        Due.end();
    }

    private static void tellsTheCell() {
        Due.sentence(5, "TELLS cell i of the row: a number;");
        int[] sizes = {1, 2, 64};
        for (int sort = 0; sort < Due.SORTS; sort++) {
            for (int n : sizes) {
                int s = sort;
                Due.onlyTells("the first of " + n, () -> Sample.row(s, n), x -> x.read(0, s, 0), number(s, 1));
                Due.onlyTells("the last of " + n, () -> Sample.row(s, n), x -> x.read(0, s, n - 1), number(s, n));
            }
            TrayBench x = Sample.row(sort, 64);
            for (int i = 0; i < 64; i++) {
                Due.cell("each of 64", x, 0, sort, i, number(sort, i + 1));
            }
        }
        Due.onlyTells("the most of MARKS", () -> written(Due.MARKS, -1), x -> x.read(0, Due.MARKS, 0), 65535);
        Due.onlyTells("the least of SEEDS", () -> written(Due.SEEDS, -32768), x -> x.read(0, 1, 0), -32768);
        Due.onlyTells("the least of DAYS", () -> written(Due.DAYS, -128), x -> x.read(0, 4, 0), -128);
    }

    private static int number(int sort, int v) {
        return sort == Due.LIT ? 1 : sort == Due.WATER ? Due.bits(v / 4f) : v;
    }

    private static TrayBench written(int sort, int v) {
        TrayBench x = new TrayBench();
        x.lay(0, sort, 1);
        x.write(0, sort, 0, v);
        return x;
    }

    private static void tellsTheBitsOfWater() {
        Due.sentence(5, "WATER as the 32 bits of its float.");
        int[] v = {0, 4, -4, 1, -6, 4000000, -4000000};
        int[] bits = {0, 0x3f800000, 0xbf800000, 0x3e800000, 0xbfc00000, 0x49742400, 0xc9742400};
        for (int n = 0; n < v.length; n++) {
            TrayBench x = written(Due.WATER, v[n]);
            Due.cell("WATER " + v[n] + " / 4", x, 0, Due.WATER, 0, bits[n]);
        }
        TrayBench zero = written(Due.WATER, 0);
        zero.change(0, Due.WATER, 0, -4);
        Due.cell("0 with a sign", zero, 0, Due.WATER, 0, 0x80000000);
        TrayBench small = written(Due.WATER, 4);
        for (int n = 0; n < 74; n++) {
            small.change(0, Due.WATER, 0, 1);
        }
        Due.cell("2 to the -148", small, 0, Due.WATER, 0, 2);
        TrayBench least = written(Due.WATER, 8);
        for (int n = 0; n < 63; n++) {
            least.change(0, Due.WATER, 0, 1);
        }
        Due.cell("2 to the -125", least, 0, Due.WATER, 0, 0x01000000);
        least.change(0, Due.WATER, 0, 2);
        Due.cell("2 to the -126", least, 0, Due.WATER, 0, 0x00800000);
        least.change(0, Due.WATER, 0, 2);
        Due.cell("2 to the -127", least, 0, Due.WATER, 0, 0x00400000);
    }

    private static void lackedRow() {
        Due.sentence(5, "LACK; PLACE.");
        for (int sort = 0; sort < Due.SORTS; sort++) {
            CellEdges.lackedRow("read", sort, TrayBench::read);
        }
    }

    private static void emptyRow() {
        Due.sentence(5, "LACK; PLACE.");
        for (int sort = 0; sort < Due.SORTS; sort++) {
            CellEdges.emptyRow("read", sort, TrayBench::read);
        }
    }

    private static void beforeAndBehind() {
        Due.sentence(5, "LACK; PLACE.");
        for (int sort = 0; sort < Due.SORTS; sort++) {
            CellEdges.beforeAndBehind("read", sort, TrayBench::read);
            CellEdges.behindAShortenedRow("read", sort, TrayBench::read);
        }
    }
}
