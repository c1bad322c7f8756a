import java.util.function.ToIntFunction;

/** Terms: NONE, doing nothing, ahead of all, for a tray, sort or plot that there isn't. */
public final class TermsNoneTest {
    private static final String NONE_FIRST =
        "It answers NONE, doing nothing, ahead of all, for a tray, sort or plot that there isn't.";
    private static final int[] NO_TRAY = {-1, 4, Due.LEAST, Due.MOST};
    private static final int[] NO_SORT = {-1, 5, Due.LEAST, Due.MOST};
    private static final int[] NO_PLOT = {-1, 2, Due.LEAST, Due.MOST};

    public static void main(String[] args) {
        firstAndLastTray();
        firstAndLastSort();
        firstAndLastPlot();
        noTrayOfRows();
        noTrayOfCells();
        noTrayOfCopy();
        noTrayOfDay();
        noTrayOfSow();
        noSortOfRows();
        noSortOfCells();
        noSortOfPlot();
        noPlot();
        aheadOfSizes();
        aheadOfLackAndPlace();
        aheadOfLackAndPlaceInFurrows();
        Due.end();
    }

    private static void none(String what, ToIntFunction<TrayBench> call) {
        Due.refused(what, Sample::bench, call, Due.NONE);
    }

    private static void firstAndLastTray() {
        Due.sentence(Due.TERMS, "TRAYS 0 .. 3:");
        for (int tray = 0; tray < 4; tray++) {
            TrayBench x = new TrayBench();
            Due.due("lay in tray " + tray, x.lay(tray, Due.SEEDS, 2), 0);
            Due.due("write in tray " + tray, x.write(tray, Due.SEEDS, 1, 6), 0);
            Due.cell("tray " + tray, x, tray, Due.SEEDS, 1, 6);
            Due.due("day over tray " + tray, x.day(tray), Due.LACK);
            for (int other = 0; other < 4; other++) {
                Due.due("tray " + other, x.length(other, Due.SEEDS), other == tray ? 0 : Due.LACK);
            }
            x.plot(0, Due.SEEDS, 1, 1);
            Due.tells("sow from tray " + tray, x, x.sow(0, 0, 0, tray, 1), 6);
        }
    }

    private static void firstAndLastSort() {
        Due.sentence(Due.TERMS, "SORTS of cells: 0 MARKS (0 .. 65535), 1 SEEDS");
        for (int sort = 0; sort < 5; sort++) {
            TrayBench x = new TrayBench();
            Due.due("lay of sort " + sort, x.lay(2, sort, 2), 0);
            for (int other = 0; other < 5; other++) {
                Due.due("sort " + other, x.length(2, other), other == sort ? 0 : Due.LACK);
            }
            Due.due("plot of sort " + sort, x.plot(0, sort, 1, 1), 0);
            Due.tells("plot of sort " + sort, x, x.furrows(0), 1);
        }
    }

    private static void firstAndLastPlot() {
        Due.sentence(Due.TERMS, "PLOTS 0, 1");
        for (int plot = 0; plot < 2; plot++) {
            TrayBench x = new TrayBench();
            Due.due("plot " + plot, x.plot(plot, Due.DAYS, 2, 3), 0);
            Due.due("set in plot " + plot, x.set(plot, 1, 2, 9), 0);
            Due.tells("get in plot " + plot, x, x.get(plot, 1, 2), 9);
            Due.due("the other plot", x.furrows(1 - plot), Due.LACK);
            Due.tells("lift in plot " + plot, x, x.lift(plot, 1), 3);
        }
    }

    private static void noTrayOfRows() {
        Due.sentence(Due.TERMS, NONE_FIRST);
        for (int tray : NO_TRAY) {
            for (int sort = 0; sort < 5; sort++) {
                int s = sort;
                none("lay in tray " + tray, x -> x.lay(tray, s, 2));
                none("take of tray " + tray, x -> x.take(tray, s));
                none("length of tray " + tray, x -> x.length(tray, s));
            }
        }
    }

    private static void noTrayOfCells() {
        Due.sentence(Due.TERMS, NONE_FIRST);
        for (int tray : NO_TRAY) {
            for (int sort = 0; sort < 5; sort++) {
                int s = sort;
                none("read of tray " + tray, x -> x.read(tray, s, 0));
                none("write in tray " + tray, x -> x.write(tray, s, 0, 1));
                none("change in tray " + tray, x -> x.change(tray, s, 0, 1));
                none("step in tray " + tray, x -> x.step(tray, s, 0));
            }
        }
    }

    private static void noTrayOfCopy() {
        Due.sentence(Due.TERMS, NONE_FIRST);
        for (int tray : NO_TRAY) {
            for (int sort = 0; sort < 5; sort++) {
                int s = sort;
                none("copy to tray " + tray, x -> x.copy(tray, s, 0, 0, 1));
                none("copy from tray " + tray, x -> x.copy(0, s, 0, tray, 1));
                none("copy in tray " + tray, x -> x.copy(tray, s, 0, tray, 1));
            }
        }
    }

    private static void noTrayOfDay() {
        Due.sentence(Due.TERMS, NONE_FIRST);
        for (int tray : NO_TRAY) {
            none("day over tray " + tray, x -> x.day(tray));
        }
    }

    private static void noTrayOfSow() {
        Due.sentence(Due.TERMS, NONE_FIRST);
        for (int tray : NO_TRAY) {
            none("sow from tray " + tray, x -> x.sow(0, 0, 0, tray, 0));
            none("ahead of PLACE of k", x -> x.sow(0, 3, 0, tray, 0));
            none("ahead of LACK of the furrow", x -> x.sow(0, 1, 0, tray, 0));
            none("ahead of PLACE of i", x -> x.sow(0, 0, 2, tray, 0));
            none("with a plot of MARKS", x -> x.sow(1, 0, 0, tray, 0));
            Due.refused("ahead of LACK of the furrows", TrayBench::new, x -> x.sow(0, 0, 0, tray, 0), Due.NONE);
        }
    }

    private static void noSortOfRows() {
        Due.sentence(Due.TERMS, NONE_FIRST);
        for (int sort : NO_SORT) {
            for (int tray = 0; tray < 4; tray++) {
                int t = tray;
                none("lay of sort " + sort, x -> x.lay(t, sort, 2));
                none("take of sort " + sort, x -> x.take(t, sort));
                none("length of sort " + sort, x -> x.length(t, sort));
            }
        }
    }

    private static void noSortOfCells() {
        Due.sentence(Due.TERMS, NONE_FIRST);
        for (int sort : NO_SORT) {
            for (int tray = 0; tray < 4; tray++) {
                int t = tray;
                none("read of sort " + sort, x -> x.read(t, sort, 0));
                none("write of sort " + sort, x -> x.write(t, sort, 0, 1));
                none("change of sort " + sort, x -> x.change(t, sort, 0, 1));
                none("step of sort " + sort, x -> x.step(t, sort, 0));
                none("copy of sort " + sort, x -> x.copy(t, sort, 0, 0, 1));
            }
        }
    }

    private static void noSortOfPlot() {
        Due.sentence(Due.TERMS, NONE_FIRST);
        for (int sort : NO_SORT) {
            for (int plot = 0; plot < 2; plot++) {
                int p = plot;
                none("plot of sort " + sort, x -> x.plot(p, sort, 1, 1));
                Due.refused("plot of sort " + sort, TrayBench::new, x -> x.plot(p, sort, 1, 1), Due.NONE);
            }
        }
    }

    private static void noPlot() {
        Due.sentence(Due.TERMS, NONE_FIRST);
        for (int plot : NO_PLOT) {
            for (int sort = 0; sort < 5; sort++) {
                int s = sort;
                none("plot " + plot, x -> x.plot(plot, s, 1, 1));
            }
            none("furrows of plot " + plot, x -> x.furrows(plot));
            none("lift in plot " + plot, x -> x.lift(plot, 0));
            none("get in plot " + plot, x -> x.get(plot, 0, 0));
            none("set in plot " + plot, x -> x.set(plot, 0, 0, 1));
            none("sow in plot " + plot, x -> x.sow(plot, 0, 0, 0, 0));
        }
    }

    private static void aheadOfSizes() {
        Due.sentence(Due.TERMS, NONE_FIRST);
        int[] sizes = {-1, 65, Due.LEAST, Due.MOST};
        for (int n : sizes) {
            none("lay " + n, x -> x.lay(-1, 0, n));
            none("lay " + n, x -> x.lay(4, 0, n));
            none("lay " + n, x -> x.lay(0, -1, n));
            none("lay " + n, x -> x.lay(0, 5, n));
            none("plot " + n, x -> x.plot(-1, 0, n, 1));
            none("plot " + n, x -> x.plot(2, 0, 1, n));
            none("plot " + n, x -> x.plot(0, -1, 1, n));
            none("plot " + n, x -> x.plot(0, 5, n, 1));
        }
    }

    private static void aheadOfLackAndPlace() {
        Due.sentence(Due.TERMS, NONE_FIRST);
        int[] places = {-1, 3, Due.LEAST, Due.MOST};
        for (int i : places) {
            none("read " + i, x -> x.read(4, 0, i));
            none("read " + i, x -> x.read(2, 5, i));
            none("write " + i, x -> x.write(-1, 0, i, 1));
            none("write " + i, x -> x.write(2, -1, i, 1));
            none("change " + i, x -> x.change(4, 0, i, 1));
            none("change " + i, x -> x.change(2, 5, i, 1));
            none("step " + i, x -> x.step(-1, 0, i));
            none("step " + i, x -> x.step(2, -1, i));
            none("copy, the other's place " + i, x -> x.copy(4, 0, 0, 0, i));
            none("copy, the other lacked", x -> x.copy(-1, 0, i, 2, i));
            none("copy, its own place " + i, x -> x.copy(0, 0, i, 4, 0));
            none("copy, its own lacked", x -> x.copy(2, 0, i, -1, 0));
            none("copy, both lacked", x -> x.copy(2, 5, i, 2, i));
        }
    }

    private static void aheadOfLackAndPlaceInFurrows() {
        Due.sentence(Due.TERMS, NONE_FIRST);
        int[] places = {-1, 3, Due.LEAST, Due.MOST};
        for (int k : places) {
            none("lift " + k, x -> x.lift(2, k));
            none("get " + k, x -> x.get(-1, k, 0));
            none("get 0 " + k, x -> x.get(2, 0, k));
            none("set " + k, x -> x.set(2, k, 0, 1));
            none("set 0 " + k, x -> x.set(-1, 0, k, 1));
            none("sow " + k, x -> x.sow(2, k, 0, 0, 0));
            none("sow, the tray's place " + k, x -> x.sow(-1, 0, 0, 0, k));
            none("sow, the tray's row lacked", x -> x.sow(2, 0, 0, 2, k));
        }
    }
}
