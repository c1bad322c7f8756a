/** Promise 4: length. */
public final class Promise04LengthTest {
    public static void main(String[] args) {
        tellsHowMany();
        emptyRow();
        lack();
        Due.end();
    }

    private static void tellsHowMany() {
        Due.sentence(4, "TELLS how many cells the row has.");
        int[] sizes = {1, 2, 63, 64};
        for (int sort = 0; sort < Due.SORTS; sort++) {
            int s = sort;
            for (int n : sizes) {
                Due.onlyTells("length of " + n, () -> Sample.row(s, n), x -> x.length(0, s), n);
            }
        }
    }

    private static void emptyRow() {
        Due.sentence(4, "TELLS how many cells the row has.");
        for (int sort = 0; sort < Due.SORTS; sort++) {
            int s = sort;
            Due.onlyTells("length of an empty row", Sample::bench, x -> x.length(1, s), 0);
        }
    }

    private static void lack() {
        Due.sentence(4, "LACK.");
        for (int sort = 0; sort < Due.SORTS; sort++) {
            int s = sort;
            Due.refused("length of a lacked row", Sample::bench, x -> x.length(2, s), Due.LACK);
            Due.refused("length of a new object's row", TrayBench::new, x -> x.length(0, s), Due.LACK);
            TrayBench y = Sample.bench();
            y.take(0, s);
            Due.due("length of a taken row", y.length(0, s), Due.LACK);
        }
    }
}
