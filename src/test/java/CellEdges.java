/** The places at which each call on a cell of a tray's row is tried. */
final class CellEdges {
    private static final int[] FAR = {64, 65, 256, 65536, Due.LEAST, Due.MOST};

    /** A call on cell i of a tray's row. */
    interface Call {
        int on(TrayBench x, int tray, int sort, int i);
    }

    private CellEdges() {
    }

    static void lackedRow(String name, int sort, Call call) {
        int[] places = {0, -1, 1, Due.LEAST, Due.MOST};
        for (int i : places) {
            Due.refused(name + " " + i + " of a lacked row", Sample::bench, x -> call.on(x, 2, sort, i), Due.LACK);
            Due.refused(name + " " + i + " at first", TrayBench::new, x -> call.on(x, 0, sort, i), Due.LACK);
        }
    }

    static void emptyRow(String name, int sort, Call call) {
        int[] places = {0, -1, 1, Due.LEAST, Due.MOST};
        for (int i : places) {
            Due.refused(name + " " + i + " of an empty row", Sample::bench, x -> call.on(x, 1, sort, i), Due.PLACE);
        }
    }

    static void beforeAndBehind(String name, int sort, Call call) {
        Due.refused(name + " before", Sample::bench, x -> call.on(x, 0, sort, -1), Due.PLACE);
        Due.refused(name + " behind 3", Sample::bench, x -> call.on(x, 0, sort, 3), Due.PLACE);
        Due.refused(name + " behind 1", () -> Sample.row(sort, 1), x -> call.on(x, 0, sort, 1), Due.PLACE);
        for (int i : FAR) {
            Due.refused(name + " " + i, () -> Sample.row(sort, 64), x -> call.on(x, 0, sort, i), Due.PLACE);
        }
    }

    /** Behind a row that was longer once, where cells may still be held. */
    static void behindAShortenedRow(String name, int sort, Call call) {
        Due.refused(name + " 2", () -> shortened(sort), x -> call.on(x, 0, sort, 2), Due.PLACE);
        Due.refused(name + " 5", () -> shortened(sort), x -> call.on(x, 0, sort, 5), Due.PLACE);
    }

    private static TrayBench shortened(int sort) {
        TrayBench x = Sample.row(sort, 6);
        x.lay(0, sort, 2);
        return x;
    }

    /** First and last cells are fine; the call changes no other cell, no other row, and told() not. */
    static void firstAndLast(String name, int sort, Call call) {
        int[] sizes = {1, 2, 63, 64};
        for (int n : sizes) {
            int[] places = {0, n - 1};
            for (int i : places) {
                String what = name + " " + i + " of " + n + " of sort " + sort;
                TrayBench x = Sample.row(sort, n);
                Due.due(what, call.on(x, 0, sort, i), 0);
                Due.due(what + ", told()", x.told(), Sample.TOLD);
                onlyCell(what, x, sort, i, n);
                Due.onlyChanged(what, x, Sample.row(sort, n), Sample.rowPart(0, sort));
            }
        }
    }

    private static void onlyCell(String what, TrayBench x, int sort, int i, int n) {
        TrayBench other = Sample.row(sort, n);
        for (int j = 0; j < n; j++) {
            other.read(0, sort, j);
            if (j != i) {
                Due.cell(what, x, 0, sort, j, other.told());
            }
        }
    }
}
