/** Promise 15: get. */
public final class Promise15GetTest {
    private static final String FAULTS = "LACK of the furrows; PLACE of k; LACK of the furrow; PLACE of i.";

    public static void main(String[] args) {
        tellsTheCell();
        asReadDoes();
        firstAndLast();
        lackOfTheFurrows();
        noFurrows();
        placeOfTheFurrow();
        lackOfTheFurrow();
        placeOfTheCell();
        Due.end();
    }

    private static int get(TrayBench x, int k, int i) {
        return x.get(0, k, i);
    }

    private static void tellsTheCell() {
        Due.sentence(15, "TELLS cell i of furrow k, as read() does.");
        for (int k = 0; k < 3; k += 2) {
            for (int i = 0; i < 2; i++) {
                int furrow = k;
                int cell = i;
                int number = 10 * k + i + 1;
                Due.onlyTells("plot 0", Sample::bench, x -> x.get(0, furrow, cell), number);
            }
        }
        Due.onlyTells("plot 1", Sample::bench, x -> x.get(1, 1, 2), 113);
    }

    private static void asReadDoes() {
        Due.sentence(15, "TELLS cell i of furrow k, as read() does.");
        int[] v = {0, 1, -1, 128, 40000, 70000, 3999999, 4000001, Due.LEAST, Due.MOST};
        for (int sort = 0; sort < Due.SORTS; sort++) {
            TrayBench x = new TrayBench();
            x.lay(0, sort, 1);
            x.plot(0, sort, 1, 1);
            for (int number : v) {
                x.write(0, sort, 0, number);
                x.set(0, 0, 0, number);
                x.read(0, sort, 0);
                Due.tells("sort " + sort + ", " + number, x, x.get(0, 0, 0), x.told());
            }
        }
        TrayBench y = Sample.plotOf(Due.WATER);
        y.set(0, 0, 1, -6);
        Due.tells("WATER as bits", y, y.get(0, 0, 1), 0xbfc00000);
    }

    private static void firstAndLast() {
        Due.sentence(15, "TELLS cell i of furrow k, as read() does.");
        int[] ends = {0, 63};
        for (int sort = 0; sort < Due.SORTS; sort++) {
            TrayBench x = Sample.plotOf(sort, 64, 64);
            for (int k : ends) {
                for (int i : ends) {
                    Due.tells("at first", x, x.get(0, k, i), 0);
                    x.set(0, k, i, 1);
                    Due.tells("then", x, x.get(0, k, i), sort == Due.WATER ? Due.bits(0.25f) : 1);
                }
            }
            Due.tells("another", x, x.get(0, 0, 62), 0);
            Due.tells("another", x, x.get(0, 62, 63), 0);
            Due.tells("another", x, x.get(0, 1, 0), 0);
        }
    }

    private static void lackOfTheFurrows() {
        Due.sentence(15, FAULTS);
        FurrowEdges.lackedFurrows("get", Promise15GetTest::get);
    }

    private static void noFurrows() {
        Due.sentence(15, FAULTS);
        for (int sort = 0; sort < Due.SORTS; sort++) {
            FurrowEdges.noFurrows("get", sort, Promise15GetTest::get);
        }
    }

    private static void placeOfTheFurrow() {
        Due.sentence(15, FAULTS);
        for (int sort = 0; sort < Due.SORTS; sort++) {
            FurrowEdges.placeOfTheFurrow("get", sort, Promise15GetTest::get);
            FurrowEdges.behindFewerFurrows("get", sort, Promise15GetTest::get);
        }
    }

    private static void lackOfTheFurrow() {
        Due.sentence(15, FAULTS);
        for (int sort = 0; sort < Due.SORTS; sort++) {
            FurrowEdges.goneFurrow("get", sort, Promise15GetTest::get);
        }
    }

    private static void placeOfTheCell() {
        Due.sentence(15, FAULTS);
        for (int sort = 0; sort < Due.SORTS; sort++) {
            FurrowEdges.placeOfTheCell("get", sort, Promise15GetTest::get);
        }
    }
}
