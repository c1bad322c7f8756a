/** Promise 12: plot. */
public final class Promise12PlotTest {
    private static final String FAULTS = "GREAT, if one of both is; SIZE, if one of both is below 0.";

    public static void main(String[] args) {
        newFurrows();
        ofTheSortFromThenOn();
        sizesThatAreFine();
        newFurrowsForGoneOnes();
        greatFurrows();
        greatCells();
        sizeOfFurrows();
        sizeOfCells();
        greatAndSizeAtOnce();
        refusedLeavesTheSort();
        refusedLeavesTheLack();
        tellsNothing();
        Due.end();
    }

    private static void newFurrows() {
        Due.sentence(12, "with so many new furrows of so many cells.");
        for (int plot = 0; plot < 2; plot++) {
            for (int sort = 0; sort < Due.SORTS; sort++) {
                TrayBench x = Sample.bench();
                Due.due("plot", x.plot(plot, sort, 4, 3), 0);
                Due.tells("furrows", x, x.furrows(plot), 4);
                for (int k = 0; k < 4; k++) {
                    Due.tells("a cell before", x, x.get(plot, k, 2), 0);
                    Due.due("no cell behind", x.get(plot, k, 3), Due.PLACE);
                }
                Due.onlyChanged("plot", x, Sample.bench(), Sample.plotPart(plot));
            }
        }
    }

    private static void ofTheSortFromThenOn() {
        Due.sentence(12, "The plot is of the sort from then on,");
        int[] shows = {40000, -25536, Due.bits(10000f), 1, 64};
        for (int first = 0; first < Due.SORTS; first++) {
            for (int sort = 0; sort < Due.SORTS; sort++) {
                TrayBench x = new TrayBench();
                x.lay(0, Due.SEEDS, 1);
                x.plot(1, first, 2, 2);
                x.plot(1, sort, 2, 2);
                x.set(1, 1, 1, 40000);
                Due.tells("sort " + sort + " over " + first, x, x.get(1, 1, 1), shows[sort]);
                Due.due("sow", x.sow(1, 0, 0, 0, 0), sort == Due.SEEDS ? 0 : Due.NONE);
                x.plot(0, first, 1, 1);
                x.set(1, 0, 1, 40000);
                Due.tells("of its own, whatever the other plot is of", x, x.get(1, 0, 1), shows[sort]);
            }
        }
    }

    private static void sizesThatAreFine() {
        Due.sentence(12, "with so many new furrows of so many cells.");
        int[] sizes = {0, 1, 63, 64};
        for (int sort = 0; sort < Due.SORTS; sort++) {
            for (int furrows : sizes) {
                for (int cells : sizes) {
                    TrayBench x = new TrayBench();
                    String what = furrows + " furrows of " + cells;
                    Due.due(what, x.plot(0, sort, furrows, cells), 0);
                    Due.tells(what, x, x.furrows(0), furrows);
                    edges(what, x, furrows, cells);
                }
            }
        }
    }

    private static void edges(String what, TrayBench x, int furrows, int cells) {
        Due.due(what + ", behind the last furrow", x.get(0, furrows, 0), Due.PLACE);
        if (furrows > 0) {
            Due.due(what + ", behind the last cell", x.get(0, furrows - 1, cells), Due.PLACE);
            Due.due(what + ", the first cell", x.get(0, 0, 0), cells > 0 ? 0 : Due.PLACE);
            Due.due(what + ", the last cell", x.get(0, furrows - 1, cells - 1), cells > 0 ? 0 : Due.PLACE);
            Due.tells(what + ", the last furrow", x, x.lift(0, furrows - 1), cells);
        }
    }

    private static void newFurrowsForGoneOnes() {
        Due.sentence(12, "with so many new furrows of so many cells.");
        for (int sort = 0; sort < Due.SORTS; sort++) {
            TrayBench x = Sample.plotOf(sort);
            x.plot(0, sort, 3, 2);
            Due.tells("the gone one", x, x.get(0, 1, 1), 0);
            Due.tells("one that was there", x, x.get(0, 2, 1), 0);
        }
    }

    private static void refused(int furrows, int cells, int fault) {
        String what = "plot of " + furrows + " furrows of " + cells;
        for (int sort = 0; sort < Due.SORTS; sort++) {
            int s = sort;
            Due.refused(what, Sample::bench, x -> x.plot(0, s, furrows, cells), fault);
            Due.refused(what, Sample::bench, x -> x.plot(1, s, furrows, cells), fault);
        }
    }

    private static void greatFurrows() {
        Due.sentence(12, FAULTS);
        refused(65, 1, Due.GREAT);
        refused(65, 0, Due.GREAT);
        refused(65, 64, Due.GREAT);
        refused(65536, 2, Due.GREAT);
        refused(Due.MOST, 2, Due.GREAT);
    }

    private static void greatCells() {
        Due.sentence(12, FAULTS);
        refused(1, 65, Due.GREAT);
        refused(0, 65, Due.GREAT);
        refused(64, 65, Due.GREAT);
        refused(2, 65536, Due.GREAT);
        refused(2, Due.MOST, Due.GREAT);
        refused(65, 65, Due.GREAT);
    }

    private static void sizeOfFurrows() {
        Due.sentence(12, FAULTS);
        refused(-1, 1, Due.SIZE);
        refused(-1, 0, Due.SIZE);
        refused(-1, 64, Due.SIZE);
        refused(Due.LEAST, 2, Due.SIZE);
    }

    private static void sizeOfCells() {
        Due.sentence(12, FAULTS);
        refused(1, -1, Due.SIZE);
        refused(0, -1, Due.SIZE);
        refused(64, -1, Due.SIZE);
        refused(2, Due.LEAST, Due.SIZE);
        refused(-1, -1, Due.SIZE);
    }

    private static void greatAndSizeAtOnce() {
        Due.sentence(12, FAULTS);
        refused(65, -1, Due.GREAT);
        refused(-1, 65, Due.GREAT);
        refused(Due.MOST, Due.LEAST, Due.GREAT);
        refused(Due.LEAST, Due.MOST, Due.GREAT);
    }

    private static void refusedLeavesTheSort() {
        Due.sentence(12, FAULTS);
        for (int old = 0; old < Due.SORTS; old++) {
            for (int sort = 0; sort < Due.SORTS; sort++) {
                int o = old;
                int s = sort;
                Due.refused("65 furrows", () -> Sample.plotOf(o), x -> x.plot(0, s, 65, 1), Due.GREAT);
                Due.refused("65 cells", () -> Sample.plotOf(o), x -> x.plot(0, s, 1, 65), Due.GREAT);
                Due.refused("-1 furrows", () -> Sample.plotOf(o), x -> x.plot(0, s, -1, 1), Due.SIZE);
                Due.refused("-1 cells", () -> Sample.plotOf(o), x -> x.plot(0, s, 1, -1), Due.SIZE);
            }
        }
    }

    private static void refusedLeavesTheLack() {
        Due.sentence(12, FAULTS);
        for (int sort = 0; sort < Due.SORTS; sort++) {
            int s = sort;
            Due.refused("65 furrows at first", TrayBench::new, x -> x.plot(1, s, 65, 1), Due.GREAT);
            Due.refused("65 cells at first", TrayBench::new, x -> x.plot(1, s, 1, 65), Due.GREAT);
            Due.refused("-1 furrows at first", TrayBench::new, x -> x.plot(1, s, -1, 1), Due.SIZE);
            Due.refused("-1 cells at first", TrayBench::new, x -> x.plot(1, s, 1, -1), Due.SIZE);
        }
    }

    private static void tellsNothing() {
        Due.sentence(12, "The plot is of the sort from then on,");
        TrayBench x = Sample.bench();
        x.plot(0, Due.SEEDS, 9, 8);
        Due.due("told() behind plot", x.told(), Sample.TOLD);
    }
}
