/** Promise 17: sow. */
public final class Promise17SowTest {
    private static final String FAULTS = "As for get(); then LACK, PLACE of the tray's.";

    public static void main(String[] args) {
        asManyMore();
        cut();
        trayCellBecomesZero();
        tellsThePlotsCell();
        firstAndLast();
        noneForAnotherSort();
        noneAheadOfFaults();
        lackOfTheFurrows();
        noFurrows();
        placeOfTheFurrow();
        lackOfTheFurrow();
        placeOfTheCell();
        lackOfTheTrays();
        placeOfTheTrays();
        Due.end();
    }

    /** Sows from a cell that is fine, from one that isn't there, and from a row that is lacked. */
    private static FurrowEdges.Call[] calls() {
        return new FurrowEdges.Call[] {
            (x, k, i) -> x.sow(0, k, i, 0, 0), (x, k, i) -> x.sow(0, k, i, 0, 2),
            (x, k, i) -> x.sow(0, k, i, 1, 0), (x, k, i) -> x.sow(0, k, i, 2, -1)};
    }

    private static void sows(int cell, int seeds, int then) {
        TrayBench x = new TrayBench();
        x.plot(1, Due.SEEDS, 2, 3);
        x.lay(3, Due.SEEDS, 2);
        x.set(1, 1, 2, cell);
        x.write(3, Due.SEEDS, 1, seeds);
        x.write(3, Due.SEEDS, 0, 7);
        String what = seeds + " sown upon " + cell;
        Due.tells(what, x, x.sow(1, 1, 2, 3, 1), then);
        Due.tells(what + ", the plot's cell", x, x.get(1, 1, 2), then);
        Due.cell(what + ", the tray's cell", x, 3, Due.SEEDS, 1, 0);
        Due.cell(what + ", another cell of the tray", x, 3, Due.SEEDS, 0, 7);
        Due.tells(what + ", another cell of the plot", x, x.get(1, 1, 1), 0);
        Due.tells(what + ", another furrow", x, x.get(1, 0, 2), 0);
    }

    private static void asManyMore() {
        Due.sentence(17, "Cell i of furrow k is as many more (CUT) as cell j of the tray's row of SEEDS is,");
        sows(10, 5, 15);
        sows(0, 0, 0);
        sows(10, 0, 10);
        sows(0, 5, 5);
        sows(10, -30, -20);
        sows(-10, 10, 0);
        sows(-32768, 32767, -1);
        sows(32766, 1, 32767);
        sows(-32767, -1, -32768);
    }

    private static void cut() {
        Due.sentence(17, "Cell i of furrow k is as many more (CUT) as cell j of the tray's row of SEEDS is,");
        sows(32767, 1, -32768);
        sows(1, 32767, -32768);
        sows(-32768, -1, 32767);
        sows(-1, -32768, 32767);
        sows(32767, 32767, -2);
        sows(-32768, -32768, 0);
    }

    private static void trayCellBecomesZero() {
        Due.sentence(17, "which becomes 0.");
        TrayBench x = Sample.bench();
        Due.tells("sow", x, x.sow(0, 0, 1, 0, 2), 2 + Sample.TOLD);
        Due.cell("the tray's cell", x, 0, Due.SEEDS, 2, 0);
        Due.tells("sown again", x, x.sow(0, 0, 1, 0, 2), 2 + Sample.TOLD);
        Due.cell("the tray's cell before", x, 0, Due.SEEDS, 1, 16);
        Due.onlyChanged("sow", x, Sample.bench(), Sample.rowPart(0, Due.SEEDS), Sample.plotPart(0));
    }

    private static void tellsThePlotsCell() {
        Due.sentence(17, "TELLS the plot's cell then.");
        TrayBench x = Sample.bench();
        x.set(0, 2, 0, 32760);
        x.write(0, Due.SEEDS, 0, 10);
        Due.tells("behind the cut", x, x.sow(0, 2, 0, 0, 0), -32766);
        x.read(0, Due.SEEDS, 2);
        Due.tells("of nothing sown", x, x.sow(0, 2, 0, 0, 0), -32766);
    }

    private static void firstAndLast() {
        Due.sentence(17, "Cell i of furrow k is as many more (CUT) as cell j of the tray's row of SEEDS is,");
        int[] ends = {0, 63};
        for (int tray = 0; tray < 4; tray++) {
            for (int k : ends) {
                for (int i : ends) {
                    for (int j : ends) {
                        TrayBench x = new TrayBench();
                        x.plot(0, Due.SEEDS, 64, 64);
                        x.lay(tray, Due.SEEDS, 64);
                        x.write(tray, Due.SEEDS, j, 9);
                        Due.tells("sow", x, x.sow(0, k, i, tray, j), 9);
                        Due.tells("sown", x, x.get(0, k, i), 9);
                        Due.cell("the tray's cell", x, tray, Due.SEEDS, j, 0);
                    }
                }
            }
        }
    }

    private static void noneForAnotherSort() {
        Due.sentence(17, "NONE for a plot that is not of SEEDS.");
        for (int sort = 0; sort < Due.SORTS; sort++) {
            if (sort != Due.SEEDS) {
                int s = sort;
                Due.refused("a plot of sort " + s, () -> Sample.plotOf(s), x -> x.sow(0, 0, 0, 0, 0), Due.NONE);
                TrayBench x = Sample.plotOf(Due.SEEDS);
                x.plot(0, s, 1, 1);
                Due.due("that was of SEEDS", x.sow(0, 0, 0, 0, 0), Due.NONE);
                x.plot(0, Due.SEEDS, 1, 1);
                Due.due("that is of SEEDS again", x.sow(0, 0, 0, 0, 0), 0);
            }
        }
    }

    private static void noneAheadOfFaults() {
        Due.sentence(17, "NONE for a plot that is not of SEEDS.");
        for (int sort = 0; sort < Due.SORTS; sort++) {
            if (sort != Due.SEEDS) {
                int s = sort;
                Due.refused("no furrow", () -> Sample.plotOf(s), x -> x.sow(0, 3, 0, 0, 0), Due.NONE);
                Due.refused("of none", () -> Sample.plotOf(s, 0, 0), x -> x.sow(0, 0, 0, 0, 0), Due.NONE);
                Due.refused("a gone furrow", () -> Sample.plotOf(s), x -> x.sow(0, 1, 0, 0, 0), Due.NONE);
                Due.refused("no cell", () -> Sample.plotOf(s), x -> x.sow(0, 0, 2, 0, 0), Due.NONE);
                Due.refused("a lacked row", () -> Sample.plotOf(s), x -> x.sow(0, 0, 0, 2, 0), Due.NONE);
                Due.refused("no cell of the tray", () -> Sample.plotOf(s), x -> x.sow(0, 0, 0, 0, 2), Due.NONE);
            }
        }
    }

    private static void lackOfTheFurrows() {
        Due.sentence(17, FAULTS);
        for (FurrowEdges.Call call : calls()) {
            FurrowEdges.lackedFurrows("sow", call);
        }
    }

    private static void noFurrows() {
        Due.sentence(17, FAULTS);
        for (FurrowEdges.Call call : calls()) {
            FurrowEdges.noFurrows("sow", Due.SEEDS, call);
        }
    }

    private static void placeOfTheFurrow() {
        Due.sentence(17, FAULTS);
        for (FurrowEdges.Call call : calls()) {
            FurrowEdges.placeOfTheFurrow("sow", Due.SEEDS, call);
            FurrowEdges.behindFewerFurrows("sow", Due.SEEDS, call);
        }
    }

    private static void lackOfTheFurrow() {
        Due.sentence(17, FAULTS);
        for (FurrowEdges.Call call : calls()) {
            FurrowEdges.goneFurrow("sow", Due.SEEDS, call);
        }
    }

    private static void placeOfTheCell() {
        Due.sentence(17, FAULTS);
        for (FurrowEdges.Call call : calls()) {
            FurrowEdges.placeOfTheCell("sow", Due.SEEDS, call);
        }
    }

    private static void lackOfTheTrays() {
        Due.sentence(17, FAULTS);
        int[] places = {0, -1, 1, 64, Due.LEAST, Due.MOST};
        for (int j : places) {
            Due.refused("from a lacked row", Sample::bench, x -> x.sow(0, 0, 0, 2, j), Due.LACK);
            Due.refused("from a lacked row", Sample::bench, x -> x.sow(0, 2, 1, 2, j), Due.LACK);
        }
        TrayBench x = Sample.bench();
        x.lay(2, Due.MARKS, 3);
        Due.due("from a tray that lacks SEEDS alone", x.sow(0, 0, 0, 2, 0), Due.LACK);
    }

    private static void placeOfTheTrays() {
        Due.sentence(17, FAULTS);
        int[] places = {-1, 3, 64, Due.LEAST, Due.MOST};
        for (int j : places) {
            Due.refused("from " + j + " of 3", Sample::bench, x -> x.sow(0, 0, 0, 0, j), Due.PLACE);
            Due.refused("from " + j + " of none", Sample::bench, x -> x.sow(0, 0, 0, 1, j), Due.PLACE);
        }
        Due.refused("from 0 of none", Sample::bench, x -> x.sow(0, 0, 0, 1, 0), Due.PLACE);
        Due.refused("from 64 of 64", () -> wide(), x -> x.sow(0, 0, 0, 0, 64), Due.PLACE);
    }

    private static TrayBench wide() {
        TrayBench x = Sample.plotOf(Due.SEEDS);
        x.lay(0, Due.SEEDS, 64);
        return x;
    }
}
