/** Promise 3: take. */
public final class Promise03TakeTest {
    public static void main(String[] args) {
        lacksTheRow();
        tellsHowMany();
        emptyRow();
        lack();
        otherRowsStay();
        Due.end();
    }

    private static void lacksTheRow() {
        Due.sentence(3, "The tray lacks the row from then on.");
        for (int sort = 0; sort < Due.SORTS; sort++) {
            TrayBench x = Sample.bench();
            Due.due("take", x.take(0, sort), 0);
            Due.due("take again", x.take(0, sort), Due.LACK);
            Due.due("length", x.length(0, sort), Due.LACK);
            Due.due("read", x.read(0, sort, 0), Due.LACK);
            Due.due("write", x.write(0, sort, 0, 1), Due.LACK);
            Due.due("change", x.change(0, sort, 0, 1), Due.LACK);
            Due.due("step", x.step(0, sort, 0), sort == Due.LIT ? Due.NONE : Due.LACK);
            Due.due("copy from it", x.copy(3, sort, 0, 0, 0), Due.LACK);
            Due.due("copy to it", x.copy(0, sort, 0, 3, 0), Due.LACK);
            Due.due("told() stays", x.told(), 3);
            Due.due("lay", x.lay(0, sort, 1), 0);
            Due.tells("until it is laid again", x, x.length(0, sort), 1);
        }
    }

    private static void tellsHowMany() {
        Due.sentence(3, "TELLS how many cells it had.");
        int[] sizes = {1, 2, 63, 64};
        for (int sort = 0; sort < Due.SORTS; sort++) {
            for (int n : sizes) {
                TrayBench x = Sample.row(sort, n);
                Due.tells("take of " + n, x, x.take(0, sort), n);
            }
        }
    }

    private static void emptyRow() {
        Due.sentence(3, "TELLS how many cells it had.");
        for (int sort = 0; sort < Due.SORTS; sort++) {
            TrayBench x = Sample.bench();
            Due.tells("take of an empty row", x, x.take(1, sort), 0);
            Due.due("then it is lacked", x.take(1, sort), Due.LACK);
        }
    }

    private static void lack() {
        Due.sentence(3, "LACK.");
        for (int sort = 0; sort < Due.SORTS; sort++) {
            int s = sort;
            Due.refused("take of a lacked row", Sample::bench, x -> x.take(2, s), Due.LACK);
            Due.refused("take of a new object's row", TrayBench::new, x -> x.take(0, s), Due.LACK);
        }
    }

    private static void otherRowsStay() {
        Due.sentence(3, "The tray lacks the row from then on.");
        for (int sort = 0; sort < Due.SORTS; sort++) {
            for (int tray = 0; tray < 2; tray++) {
                TrayBench x = Sample.bench();
                x.take(tray, sort);
                Due.onlyChanged("take", x, Sample.bench(), Sample.rowPart(tray, sort));
            }
        }
    }
}
