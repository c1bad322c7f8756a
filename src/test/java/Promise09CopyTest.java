/** Promise 9: copy. */
public final class Promise09CopyTest {
    private static final int[] OUTSIDE_3 = {-1, 3, 64, Due.LEAST, Due.MOST};

    public static void main(String[] args) {
        becomesWhatTheOtherIs();
        firstAndLastCell();
        ofItsOwnRow();
        ofItself();
        lackOfTheOther();
        placeOfTheOther();
        lackOfItsOwn();
        placeOfItsOwn();
        emptyRows();
        faultsInItsOwnRow();
        Due.end();
    }

    private static void becomesWhatTheOtherIs() {
        Due.sentence(9, "Cell i of the tray's row becomes what cell j of another tray's (or its own) row of the sort is.");
        int[] v = {0, 1, -7, 40000, 70000, Due.MOST, Due.LEAST};
        for (int sort = 0; sort < Due.SORTS; sort++) {
            for (int number : v) {
                TrayBench x = Sample.bench();
                x.lay(3, sort, 2);
                x.write(3, sort, 1, number);
                x.read(3, sort, 1);
                int due = x.told();
                Due.due("copy", x.copy(0, sort, 2, 3, 1), 0);
                Due.due("copy tells nothing", x.told(), due);
                Due.cell("copied", x, 0, sort, 2, due);
                Due.cell("the other one stays", x, 3, sort, 1, due);
                x.write(3, sort, 1, number + 1);
                Due.cell("a copy stands alone", x, 0, sort, 2, due);
            }
        }
        TrayBench y = Sample.bench();
        y.write(3, Due.WATER, 0, 0);
        y.change(3, Due.WATER, 0, -4);
        y.copy(0, Due.WATER, 1, 3, 0);
        Due.water("the sign of 0 is copied", y, 0, 1, -0f);
    }

    private static void firstAndLastCell() {
        Due.sentence(9, "Cell i of the tray's row becomes what cell j of another tray's (or its own) row of the sort is.");
        for (int sort = 0; sort < Due.SORTS; sort++) {
            CellEdges.firstAndLast("copy to", sort, (x, tray, s, i) -> copyFromTray1(x, tray, s, i));
            TrayBench x = Sample.row(sort, 64);
            x.lay(2, sort, 64);
            Due.due("last to first", x.copy(2, sort, 0, 0, 63), 0);
            Due.due("first to last", x.copy(2, sort, 63, 0, 0), 0);
            int one = sort == Due.WATER ? Due.bits(0.25f) : 1;
            Due.cell("first", x, 2, sort, 0, sort == Due.WATER ? Due.bits(16f) : sort == Due.LIT ? 1 : 64);
            Due.cell("last", x, 2, sort, 63, one);
            Due.cell("another", x, 2, sort, 62, 0);
        }
    }

    /** Copies a 0 from tray 1, whose row is taken again, so that but for the cell nothing changes. */
    private static int copyFromTray1(TrayBench x, int tray, int sort, int i) {
        x.lay(1, sort, 1);
        int answer = x.copy(tray, sort, i, 1, 0);
        x.take(1, sort);
        x.read(3, Due.SEEDS, 0);
        return answer;
    }

    private static void ofItsOwnRow() {
        Due.sentence(9, "(or its own)");
        for (int sort = 0; sort < Due.SORTS; sort++) {
            TrayBench x = new TrayBench();
            x.lay(1, sort, 64);
            x.write(1, sort, 63, 3);
            int three = sort == Due.WATER ? Due.bits(0.75f) : sort == Due.LIT ? 1 : 3;
            Due.due("last to first", x.copy(1, sort, 0, 1, 63), 0);
            Due.cell("first", x, 1, sort, 0, three);
            Due.cell("last", x, 1, sort, 63, three);
            Due.cell("another", x, 1, sort, 1, 0);
            Due.due("a 0 to the last", x.copy(1, sort, 63, 1, 5), 0);
            Due.cell("last", x, 1, sort, 63, 0);
        }
    }

    private static void ofItself() {
        Due.sentence(9, "(or its own)");
        for (int sort = 0; sort < Due.SORTS; sort++) {
            for (int i = 0; i < 3; i++) {
                int s = sort;
                int place = i;
                Due.refused("a cell to itself changes nothing", Sample::bench, x -> x.copy(0, s, place, 0, place), 0);
            }
        }
    }

    private static void lackOfTheOther() {
        Due.sentence(9, "LACK, PLACE of the other one; LACK, PLACE of its own.");
        for (int sort = 0; sort < Due.SORTS; sort++) {
            int s = sort;
            for (int i : OUTSIDE_3) {
                Due.refused("own place " + i, Sample::bench, x -> x.copy(0, s, i, 2, 0), Due.LACK);
                Due.refused("both lacked", TrayBench::new, x -> x.copy(0, s, i, 2, i), Due.LACK);
            }
            Due.refused("own fine", Sample::bench, x -> x.copy(0, s, 0, 2, 0), Due.LACK);
            Due.refused("own empty", Sample::bench, x -> x.copy(1, s, 0, 2, 0), Due.LACK);
        }
    }

    private static void placeOfTheOther() {
        Due.sentence(9, "LACK, PLACE of the other one; LACK, PLACE of its own.");
        for (int sort = 0; sort < Due.SORTS; sort++) {
            int s = sort;
            for (int j : OUTSIDE_3) {
                Due.refused("own lacked, the other's " + j, Sample::bench, x -> x.copy(2, s, 0, 0, j), Due.PLACE);
                Due.refused("own fine, the other's " + j, Sample::bench, x -> x.copy(3, s, 0, 0, j), Due.PLACE);
            }
            Due.refused("within its own length", Sample::bench, x -> x.copy(0, s, 2, 3, 2), Due.PLACE);
        }
    }

    private static void lackOfItsOwn() {
        Due.sentence(9, "LACK, PLACE of the other one; LACK, PLACE of its own.");
        for (int sort = 0; sort < Due.SORTS; sort++) {
            int s = sort;
            for (int i : OUTSIDE_3) {
                Due.refused("own place " + i, Sample::bench, x -> x.copy(2, s, i, 0, 0), Due.LACK);
            }
            Due.refused("the other's first", Sample::bench, x -> x.copy(2, s, 0, 0, 0), Due.LACK);
            Due.refused("the other's last", Sample::bench, x -> x.copy(2, s, 0, 0, 2), Due.LACK);
        }
    }

    private static void placeOfItsOwn() {
        Due.sentence(9, "LACK, PLACE of the other one; LACK, PLACE of its own.");
        for (int sort = 0; sort < Due.SORTS; sort++) {
            int s = sort;
            for (int i : OUTSIDE_3) {
                Due.refused("own place " + i, Sample::bench, x -> x.copy(0, s, i, 3, 0), Due.PLACE);
            }
            Due.refused("within the other's length", Sample::bench, x -> x.copy(3, s, 2, 0, 2), Due.PLACE);
        }
    }

    private static void emptyRows() {
        Due.sentence(9, "LACK, PLACE of the other one; LACK, PLACE of its own.");
        for (int sort = 0; sort < Due.SORTS; sort++) {
            int s = sort;
            Due.refused("from an empty row", Sample::bench, x -> x.copy(0, s, 0, 1, 0), Due.PLACE);
            Due.refused("from an empty row to a lacked one", Sample::bench, x -> x.copy(2, s, 0, 1, 0), Due.PLACE);
            Due.refused("to an empty row", Sample::bench, x -> x.copy(1, s, 0, 0, 0), Due.PLACE);
            Due.refused("to an empty row from a lacked one", Sample::bench, x -> x.copy(1, s, 0, 2, 0), Due.LACK);
        }
    }

    private static void faultsInItsOwnRow() {
        Due.sentence(9, "LACK, PLACE of the other one; LACK, PLACE of its own.");
        for (int sort = 0; sort < Due.SORTS; sort++) {
            int s = sort;
            Due.refused("a lacked row to itself", Sample::bench, x -> x.copy(2, s, 0, 2, 0), Due.LACK);
            Due.refused("an empty row to itself", Sample::bench, x -> x.copy(1, s, 0, 1, 0), Due.PLACE);
            for (int i : OUTSIDE_3) {
                Due.refused("from outside", Sample::bench, x -> x.copy(0, s, 0, 0, i), Due.PLACE);
                Due.refused("to outside", Sample::bench, x -> x.copy(0, s, i, 0, 0), Due.PLACE);
                Due.refused("outside to outside", Sample::bench, x -> x.copy(0, s, i, 0, i), Due.PLACE);
            }
        }
    }
}
