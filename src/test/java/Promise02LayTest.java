/** Promise 2: lay. */
public final class Promise02LayTest {
    public static void main(String[] args) {
        newRow();
        sizesThatAreFine();
        great();
        size();
        refusedLeavesTheRow();
        refusedLeavesTheLack();
        tellsNothing();
        Due.end();
    }

    private static void newRow() {
        Due.sentence(2, "The tray has a new row of n cells of the sort.");
        for (int tray = 0; tray < 4; tray++) {
            for (int sort = 0; sort < Due.SORTS; sort++) {
                TrayBench x = Sample.bench();
                Due.due("lay", x.lay(tray, sort, 5), 0);
                Due.tells("tray " + tray + " sort " + sort, x, x.length(tray, sort), 5);
                Due.cell("the last cell", x, tray, sort, 4, 0);
                Due.onlyChanged("lay", x, Sample.bench(), Sample.rowPart(tray, sort));
            }
        }
    }

    private static void sizesThatAreFine() {
        Due.sentence(2, "The tray has a new row of n cells of the sort.");
        int[] sizes = {0, 1, 63, 64};
        for (int sort = 0; sort < Due.SORTS; sort++) {
            for (int n : sizes) {
                TrayBench x = new TrayBench();
                String what = "lay " + n + " of sort " + sort;
                Due.due(what, x.lay(3, sort, n), 0);
                Due.tells(what, x, x.length(3, sort), n);
                Due.due(what + ", before the first", x.read(3, sort, -1), Due.PLACE);
                Due.due(what + ", the last", x.read(3, sort, n - 1), n == 0 ? Due.PLACE : 0);
                Due.due(what + ", behind the last", x.read(3, sort, n), Due.PLACE);
            }
        }
    }

    private static void great() {
        Due.sentence(2, "GREAT; SIZE.");
        int[] sizes = {65, 66, 128, 256 + 3, 65536 + 3, Due.MOST};
        for (int sort = 0; sort < Due.SORTS; sort++) {
            for (int n : sizes) {
                int s = sort;
                Due.refused("lay " + n, Sample::bench, x -> x.lay(0, s, n), Due.GREAT);
            }
        }
    }

    private static void size() {
        Due.sentence(2, "GREAT; SIZE.");
        int[] sizes = {-1, -2, -64, -65, -256 + 3, Due.LEAST};
        for (int sort = 0; sort < Due.SORTS; sort++) {
            for (int n : sizes) {
                int s = sort;
                Due.refused("lay " + n, Sample::bench, x -> x.lay(0, s, n), Due.SIZE);
            }
        }
    }

    private static void refusedLeavesTheRow() {
        Due.sentence(2, "GREAT; SIZE.");
        for (int sort = 0; sort < Due.SORTS; sort++) {
            int s = sort;
            Due.refused("lay 65 over 64", () -> Sample.row(s, 64), x -> x.lay(0, s, 65), Due.GREAT);
            Due.refused("lay -1 over 64", () -> Sample.row(s, 64), x -> x.lay(0, s, -1), Due.SIZE);
            Due.refused("lay 65 over an empty row", Sample::bench, x -> x.lay(1, s, 65), Due.GREAT);
            Due.refused("lay -1 over an empty row", Sample::bench, x -> x.lay(1, s, -1), Due.SIZE);
        }
    }

    private static void refusedLeavesTheLack() {
        Due.sentence(2, "GREAT; SIZE.");
        for (int sort = 0; sort < Due.SORTS; sort++) {
            int s = sort;
            Due.refused("lay 65 where there is none", Sample::bench, x -> x.lay(2, s, 65), Due.GREAT);
            Due.refused("lay -1 where there is none", Sample::bench, x -> x.lay(2, s, -1), Due.SIZE);
            Due.refused("lay 65 at first", TrayBench::new, x -> x.lay(2, s, 65), Due.GREAT);
            Due.refused("lay -1 at first", TrayBench::new, x -> x.lay(2, s, -1), Due.SIZE);
        }
    }

    private static void tellsNothing() {
        Due.sentence(2, "The tray has a new row of n cells of the sort.");
        TrayBench x = Sample.bench();
        x.lay(0, Due.SEEDS, 9);
        Due.due("told() behind lay", x.told(), Sample.TOLD);
        Due.due("where(0) behind lay", x.where(0), 1);
    }
}
