/** Promises 12 to 17: plots, their furrows, and sowing. */
public final class PlotsTest {
    private static final int LEAST = Integer.MIN_VALUE;
    private static final int MOST = Integer.MAX_VALUE;

    public static void main(String[] args) {
        plotSizes();
        plotAgain();
        furrows();
        lift();
        getAndSet();
        faultOrder();
        sow();
        sowFaults();
        wrongNumbers();
        Due.end();
    }

    private static void plotSizes() {
        TrayBench x = new TrayBench();
        int[][] great = {{65, 1}, {1, 65}, {65, 65}, {65, -1}, {-1, 65}, {MOST, LEAST}, {LEAST, MOST}};
        for (int[] sizes : great) {
            Due.due("GREAT", x.plot(0, 0, sizes[0], sizes[1]), Due.GREAT);
        }
        int[][] small = {{-1, 1}, {1, -1}, {-1, -1}, {LEAST, 64}, {64, LEAST}};
        for (int[] sizes : small) {
            Due.due("SIZE", x.plot(0, 0, sizes[0], sizes[1]), Due.SIZE);
        }
        Due.due("nothing was laid out", x.furrows(0), Due.LACK);
        Due.due("and the plot is still of SEEDS", x.sow(0, 0, 0, 0, 0), Due.LACK);
        for (int sort = 0; sort < 5; sort++) {
            Due.due("64 of 64", x.plot(1, sort, 64, 64), 0);
            Due.tells("64 furrows", x, x.furrows(1), 64);
            Due.tells("the first cell", x, x.get(1, 0, 0), 0);
            Due.tells("the last cell", x, x.get(1, 63, 63), 0);
            Due.due("set", x.set(1, 63, 63, 1), 0);
            Due.tells("the last cell", x, x.get(1, 63, 63), sort == Due.WATER ? 0x3e800000 : 1);
            Due.tells("its neighbour", x, x.get(1, 63, 62), 0);
            Due.tells("its neighbour", x, x.get(1, 62, 63), 0);
        }
        Due.due("no furrows", x.plot(0, 2, 0, 64), 0);
        Due.tells("no furrows are no lack", x, x.furrows(0), 0);
        Due.due("no furrow 0", x.get(0, 0, 0), Due.PLACE);
        Due.due("no cells", x.plot(0, 2, 64, 0), 0);
        Due.due("no cell 0", x.get(0, 63, 0), Due.PLACE);
        Due.tells("a furrow of none", x, x.lift(0, 63), 0);
    }

    private static void plotAgain() {
        TrayBench x = new TrayBench();
        x.plot(0, Due.MARKS, 3, 4);
        x.plot(1, Due.DAYS, 2, 2);
        x.set(0, 2, 3, -1);
        x.set(1, 1, 1, -1);
        x.lift(0, 0);
        Due.due("GREAT", x.plot(0, Due.DAYS, 65, 1), Due.GREAT);
        Due.due("SIZE", x.plot(0, Due.DAYS, 1, -1), Due.SIZE);
        Due.tells("a refused plot() changes nothing", x, x.get(0, 2, 3), 65535);
        x.set(0, 2, 3, 300);
        Due.tells("not even the sort", x, x.get(0, 2, 3), 300);
        Due.due("a furrow is gone", x.get(0, 0, 0), Due.LACK);
        int before = x.told();
        Due.due("plot again", x.plot(0, Due.DAYS, 3, 4), 0);
        Due.due("plot() tells nothing", x.told(), before);
        Due.tells("new cells", x, x.get(0, 2, 3), 0);
        Due.tells("a new furrow for the gone one", x, x.get(0, 0, 0), 0);
        x.set(0, 0, 0, 200);
        Due.tells("of the new sort", x, x.get(0, 0, 0), -56);
        Due.tells("the other plot stays", x, x.get(1, 1, 1), -1);
        x.plot(0, Due.DAYS, 1, 1);
        Due.due("fewer furrows", x.get(0, 1, 0), Due.PLACE);
        Due.due("fewer cells", x.get(0, 0, 1), Due.PLACE);
        x.plot(0, Due.DAYS, 3, 4);
        Due.tells("more again, new ones", x, x.get(0, 0, 0), 0);
        Due.tells("more again, new ones", x, x.get(0, 2, 3), 0);
    }

    private static void furrows() {
        TrayBench x = new TrayBench();
        Due.due("no furrows", x.furrows(0), Due.LACK);
        x.plot(0, 0, 5, 6);
        Due.tells("furrows", x, x.furrows(0), 5);
        x.lift(0, 4);
        x.lift(0, 1);
        Due.tells("gone ones, too", x, x.furrows(0), 5);
        Due.due("the other plot", x.furrows(1), Due.LACK);
        Due.due("told stays", x.told(), 5);
    }

    private static void lift() {
        TrayBench x = new TrayBench();
        Due.due("lacked", x.lift(1, -1), Due.LACK);
        x.plot(1, Due.WATER, 3, 7);
        Due.due("PLACE", x.lift(1, -1), Due.PLACE);
        Due.due("PLACE", x.lift(1, 3), Due.PLACE);
        Due.due("PLACE", x.lift(1, LEAST), Due.PLACE);
        Due.due("PLACE", x.lift(1, MOST), Due.PLACE);
        Due.tells("lift", x, x.lift(1, 1), 7);
        Due.due("gone", x.lift(1, 1), Due.LACK);
        Due.due("gone", x.get(1, 1, 0), Due.LACK);
        Due.due("gone", x.set(1, 1, 0, 1), Due.LACK);
        Due.tells("the furrow before stays", x, x.get(1, 0, 6), 0);
        Due.tells("the furrow behind stays", x, x.get(1, 2, 6), 0);
        Due.tells("the first", x, x.lift(1, 0), 7);
        Due.tells("the last", x, x.lift(1, 2), 7);
        Due.due("all gone", x.get(1, 2, 0), Due.LACK);
        Due.due("all gone, one that never was", x.get(1, 3, 0), Due.PLACE);
        Due.tells("all gone", x, x.furrows(1), 3);
    }

    private static void getAndSet() {
        TrayBench x = new TrayBench();
        int[] numbers = {0, 1, -1, 130, 40000, 70000, 4000001, LEAST, MOST};
        for (int sort = 0; sort < 5; sort++) {
            x.plot(0, sort, 2, 3);
            x.lay(0, sort, 1);
            for (int v : numbers) {
                x.write(0, sort, 0, v);
                x.read(0, sort, 0);
                int number = x.told();
                Due.due("set", x.set(0, 1, 2, v), 0);
                Due.due("set tells nothing", x.told(), number);
                Due.tells("get of sort " + sort + ", " + v, x, x.get(0, 1, 2), number);
            }
            Due.tells("its neighbour", x, x.get(0, 0, 2), 0);
        }
        x.plot(1, Due.WATER, 1, 1);
        x.set(1, 0, 0, -7);
        Due.tells("WATER", x, x.get(1, 0, 0), Float.floatToRawIntBits(-1.75f));
        x.set(1, 0, 0, MOST);
        Due.tells("WATER", x, x.get(1, 0, 0), Float.floatToRawIntBits(1000000f));
        x.set(1, 0, 0, LEAST);
        Due.tells("WATER", x, x.get(1, 0, 0), Float.floatToRawIntBits(-1000000f));
        x.plot(1, Due.MARKS, 1, 1);
        x.set(1, 0, 0, -1);
        Due.tells("MARKS", x, x.get(1, 0, 0), 65535);
        x.plot(1, Due.LIT, 1, 1);
        x.set(1, 0, 0, 256);
        Due.tells("LIT", x, x.get(1, 0, 0), 1);
    }

    private static void faultOrder() {
        TrayBench x = new TrayBench();
        x.lay(0, Due.SEEDS, 1);
        bothAnswer(x, -1, -1, Due.LACK);
        bothAnswer(x, 0, 0, Due.LACK);
        x.plot(0, Due.SEEDS, 2, 3);
        x.lift(0, 1);
        bothAnswer(x, -1, -1, Due.PLACE);
        bothAnswer(x, 2, 0, Due.PLACE);
        bothAnswer(x, LEAST, 0, Due.PLACE);
        bothAnswer(x, MOST, 0, Due.PLACE);
        bothAnswer(x, 1, -1, Due.LACK);
        bothAnswer(x, 1, 3, Due.LACK);
        bothAnswer(x, 1, 0, Due.LACK);
        bothAnswer(x, 0, -1, Due.PLACE);
        bothAnswer(x, 0, 3, Due.PLACE);
        bothAnswer(x, 0, LEAST, Due.PLACE);
        bothAnswer(x, 0, MOST, Due.PLACE);
        bothAnswer(x, 0, 2, 0);
    }

    private static void bothAnswer(TrayBench x, int k, int i, int answer) {
        Due.due("get " + k + " " + i, x.get(0, k, i), answer);
        Due.due("set " + k + " " + i, x.set(0, k, i, 1), answer);
        Due.due("sow " + k + " " + i, x.sow(0, k, i, 0, 0), answer);
    }

    private static void sow() {
        TrayBench x = new TrayBench();
        x.plot(1, Due.SEEDS, 2, 3);
        x.lay(3, Due.SEEDS, 2);
        x.set(1, 1, 2, 10);
        x.write(3, Due.SEEDS, 1, 5);
        x.write(3, Due.SEEDS, 0, 7);
        Due.tells("sow", x, x.sow(1, 1, 2, 3, 1), 15);
        Due.tells("sown", x, x.get(1, 1, 2), 15);
        Due.cell("the tray's cell", x, 3, Due.SEEDS, 1, 0);
        Due.cell("the tray's other cell", x, 3, Due.SEEDS, 0, 7);
        Due.tells("sow of 0", x, x.sow(1, 1, 2, 3, 1), 15);
        x.write(3, Due.SEEDS, 1, -20);
        Due.tells("sow of less", x, x.sow(1, 1, 2, 3, 1), -5);
        x.set(1, 0, 0, 32767);
        x.write(3, Due.SEEDS, 1, 1);
        Due.tells("CUT", x, x.sow(1, 0, 0, 3, 1), -32768);
        x.write(3, Due.SEEDS, 1, -1);
        Due.tells("CUT", x, x.sow(1, 0, 0, 3, 1), 32767);
        Due.tells("no other cell", x, x.get(1, 0, 2), 0);
    }

    private static void sowFaults() {
        TrayBench x = new TrayBench();
        Due.due("all lacked", x.sow(0, 0, 0, 0, 0), Due.LACK);
        x.lay(0, Due.SEEDS, 2);
        x.write(0, Due.SEEDS, 1, 9);
        x.length(0, Due.SEEDS);
        for (int sort = 0; sort < 5; sort++) {
            if (sort != Due.SEEDS) {
                x.plot(0, sort, 2, 2);
                Due.due("a plot of sort " + sort, x.sow(0, 0, 0, 0, 1), Due.NONE);
                Due.due("ahead of PLACE", x.sow(0, 2, 0, 0, 1), Due.NONE);
                Due.due("ahead of LACK", x.sow(0, 0, 0, 1, 1), Due.NONE);
            }
        }
        x.plot(0, Due.SEEDS, 2, 2);
        Due.due("LACK of the tray's", x.sow(0, 0, 0, 1, 0), Due.LACK);
        Due.due("LACK of the tray's, no place", x.sow(0, 0, 0, 1, -1), Due.LACK);
        Due.due("PLACE of the tray's", x.sow(0, 0, 0, 0, 2), Due.PLACE);
        Due.due("PLACE of the tray's", x.sow(0, 0, 0, 0, -1), Due.PLACE);
        Due.due("PLACE of i ahead of LACK of the tray's", x.sow(0, 0, 2, 1, 0), Due.PLACE);
        Due.due("PLACE of k ahead of LACK of the tray's", x.sow(0, 2, 0, 1, 0), Due.PLACE);
        x.lift(0, 1);
        x.length(0, Due.SEEDS);
        Due.due("a gone furrow ahead of PLACE of the tray's", x.sow(0, 1, 0, 0, 2), Due.LACK);
        Due.due("told stays", x.told(), 2);
        Due.cell("nothing was sown", x, 0, Due.SEEDS, 1, 9);
        Due.tells("nothing was sown", x, x.get(0, 0, 0), 0);
    }

    private static void wrongNumbers() {
        TrayBench x = new TrayBench();
        x.plot(0, Due.SEEDS, 1, 1);
        x.lay(0, Due.SEEDS, 1);
        x.furrows(0);
        int[] noPlot = {-1, 2, LEAST, MOST};
        for (int plot : noPlot) {
            Due.due("plot", x.plot(plot, 0, 65, -1), Due.NONE);
            Due.due("plot", x.plot(plot, 0, 1, 1), Due.NONE);
            Due.due("furrows", x.furrows(plot), Due.NONE);
            Due.due("lift", x.lift(plot, 0), Due.NONE);
            Due.due("get", x.get(plot, 0, 0), Due.NONE);
            Due.due("set", x.set(plot, 0, 0, 1), Due.NONE);
            Due.due("sow", x.sow(plot, 0, 0, 0, 0), Due.NONE);
        }
        int[] noSort = {-1, 5, LEAST, MOST};
        for (int sort : noSort) {
            Due.due("plot of no sort", x.plot(0, sort, 65, 1), Due.NONE);
            Due.due("plot of no sort", x.plot(1, sort, 1, 1), Due.NONE);
        }
        int[] noTray = {-1, 4, LEAST, MOST};
        for (int tray : noTray) {
            Due.due("sow from no tray", x.sow(0, 0, 0, tray, 0), Due.NONE);
            Due.due("ahead of PLACE", x.sow(0, 1, 0, tray, 0), Due.NONE);
            Due.due("ahead of LACK", x.sow(1, 0, 0, tray, 0), Due.NONE);
        }
        Due.due("told stays", x.told(), 1);
        Due.due("no plot came of it", x.furrows(1), Due.LACK);
    }
}
