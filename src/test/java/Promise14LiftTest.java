/** Promise 14: lift. */
public final class Promise14LiftTest {
    private static final String FAULTS = "LACK of the furrows; PLACE; LACK (it is gone).";

    public static void main(String[] args) {
        goneFromThenOn();
        otherFurrowsStay();
        tellsHowManyCells();
        firstAndLastFurrow();
        lackOfTheFurrows();
        place();
        placeOfNoFurrows();
        itIsGone();
        Due.end();
    }

    private static void goneFromThenOn() {
        Due.sentence(14, "Furrow k is gone from then on.");
        for (int sort = 0; sort < Due.SORTS; sort++) {
            TrayBench x = Sample.plotOf(sort);
            Due.tells("lift", x, x.lift(0, 2), 2);
            Due.due("lift again", x.lift(0, 2), Due.LACK);
            Due.due("get", x.get(0, 2, 0), Due.LACK);
            Due.due("set", x.set(0, 2, 0, 1), Due.LACK);
            Due.due("sow", x.sow(0, 2, 0, 0, 0), sort == Due.SEEDS ? Due.LACK : Due.NONE);
            Due.due("told() stays", x.told(), 2);
        }
    }

    private static void otherFurrowsStay() {
        Due.sentence(14, "Furrow k is gone from then on.");
        for (int plot = 0; plot < 2; plot++) {
            TrayBench x = Sample.bench();
            x.lift(plot, 0);
            Due.onlyChanged("lift", x, Sample.bench(), Sample.plotPart(plot));
        }
        TrayBench y = Sample.bench();
        y.lift(1, 0);
        Due.tells("the furrow behind", y, y.get(1, 1, 2), 113);
        TrayBench z = Sample.bench();
        z.lift(1, 1);
        Due.tells("the furrow before", z, z.get(1, 0, 2), 103);
    }

    private static void tellsHowManyCells() {
        Due.sentence(14, "TELLS how many cells it had.");
        int[] sizes = {0, 1, 63, 64};
        for (int sort = 0; sort < Due.SORTS; sort++) {
            for (int n : sizes) {
                TrayBench x = Sample.plotOf(sort, 3, n);
                Due.tells("a furrow of " + n, x, x.lift(0, 1), n);
                Due.due("then it is gone", x.lift(0, 1), Due.LACK);
            }
        }
    }

    private static void firstAndLastFurrow() {
        Due.sentence(14, "Furrow k is gone from then on.");
        TrayBench x = Sample.plotOf(Due.DAYS, 64, 3);
        Due.tells("the first", x, x.lift(0, 0), 3);
        Due.tells("the last", x, x.lift(0, 63), 3);
        Due.due("the first is gone", x.get(0, 0, 0), Due.LACK);
        Due.due("the last is gone", x.get(0, 63, 0), Due.LACK);
        Due.tells("the second stays", x, x.get(0, 1, 2), 0);
        Due.tells("the last but one stays", x, x.get(0, 62, 2), 0);
    }

    private static void lackOfTheFurrows() {
        Due.sentence(14, FAULTS);
        int[] places = {0, -1, 1, 64, Due.LEAST, Due.MOST};
        for (int k : places) {
            Due.refused("lift " + k + " in plot 0", TrayBench::new, x -> x.lift(0, k), Due.LACK);
            Due.refused("lift " + k + " in plot 1", TrayBench::new, x -> x.lift(1, k), Due.LACK);
            Due.refused("lift " + k, () -> Sample.plotOf(Due.SEEDS), x -> x.lift(1, k), Due.LACK);
        }
    }

    private static void place() {
        Due.sentence(14, FAULTS);
        int[] places = {-1, 3, 4, 64, Due.LEAST, Due.MOST};
        for (int sort = 0; sort < Due.SORTS; sort++) {
            int s = sort;
            for (int k : places) {
                Due.refused("lift " + k + " of 3", () -> Sample.plotOf(s), x -> x.lift(0, k), Due.PLACE);
            }
            Due.refused("lift 64 of 64", () -> Sample.plotOf(s, 64, 1), x -> x.lift(0, 64), Due.PLACE);
            Due.refused("lift 1 of 1, once 3", () -> Sample.plotOf(s, 1, 1), x -> x.lift(0, 1), Due.PLACE);
            Due.refused("lift 2 of 1, once 3", () -> Sample.plotOf(s, 1, 1), x -> x.lift(0, 2), Due.PLACE);
        }
    }

    private static void placeOfNoFurrows() {
        Due.sentence(14, FAULTS);
        int[] places = {0, -1, 1, 64, Due.LEAST, Due.MOST};
        for (int k : places) {
            Due.refused("lift " + k + " of none", () -> Sample.plotOf(Due.LIT, 0, 5), x -> x.lift(0, k), Due.PLACE);
        }
    }

    private static void itIsGone() {
        Due.sentence(14, FAULTS);
        for (int sort = 0; sort < Due.SORTS; sort++) {
            int s = sort;
            Due.refused("lift of a gone one", () -> Sample.plotOf(s), x -> x.lift(0, 1), Due.LACK);
        }
    }
}
