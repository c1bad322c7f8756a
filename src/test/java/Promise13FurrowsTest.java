/** Promise 13: furrows. */
public final class Promise13FurrowsTest {
    public static void main(String[] args) {
        tellsHowMany();
        goneOnesToo();
        allGone();
        lack();
        Due.end();
    }

    private static void tellsHowMany() {
        Due.sentence(13, "TELLS how many furrows the plot has,");
        int[] sizes = {0, 1, 2, 63, 64};
        for (int sort = 0; sort < Due.SORTS; sort++) {
            for (int n : sizes) {
                int s = sort;
                Due.onlyTells(n + " furrows of 1", () -> Sample.plotOf(s, n, 1), x -> x.furrows(0), n);
                Due.onlyTells(n + " furrows of 0", () -> Sample.plotOf(s, n, 0), x -> x.furrows(0), n);
            }
        }
        TrayBench y = Sample.bench();
        Due.tells("plot 0", y, y.furrows(0), 3);
        Due.tells("plot 1", y, y.furrows(1), 2);
    }

    private static void goneOnesToo() {
        Due.sentence(13, "gone ones, too.");
        for (int k = 0; k < 4; k++) {
            TrayBench x = Sample.plotOf(Due.WATER, 4, 3);
            x.lift(0, k);
            Due.tells("furrow " + k + " gone", x, x.furrows(0), 4);
        }
    }

    private static void allGone() {
        Due.sentence(13, "gone ones, too.");
        TrayBench x = Sample.plotOf(Due.SEEDS, 64, 2);
        for (int k = 0; k < 64; k++) {
            Due.tells("lift", x, x.lift(0, k), 2);
        }
        Due.tells("all gone", x, x.furrows(0), 64);
        Due.due("one that is gone", x.get(0, 63, 0), Due.LACK);
        Due.due("one that never was", x.get(0, 64, 0), Due.PLACE);
    }

    private static void lack() {
        Due.sentence(13, "LACK.");
        Due.refused("plot 0 at first", TrayBench::new, x -> x.furrows(0), Due.LACK);
        Due.refused("plot 1 at first", TrayBench::new, x -> x.furrows(1), Due.LACK);
        Due.refused("the other plot", () -> Sample.plotOf(Due.SEEDS), x -> x.furrows(1), Due.LACK);
    }
}
