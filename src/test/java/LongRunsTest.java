import java.lang.management.ManagementFactory;

/**
 * Runs of 512 calls on one object, the most that the document asks for: no call throws or fails to
 * end (LANGUAGE.md, rule 7), each answers what is due, and what is made stays small (rule 12).
 */
public final class LongRunsTest {
    private static final int CALLS = 512;
    private static final int ROWS_AND_FURROWS = 4 * Due.SORTS + 2 * 64;
    private static final int PLACES = 64;

    /** A row, its cells, and a place for it in an array: no more is needed for each, and few things beside. */
    private static final int MOST_OBJECTS = 2 * ROWS_AND_FURROWS + 20;
    private static final int MOST_NUMBERS = ROWS_AND_FURROWS * (PLACES + 8) + 100;
    private static final int MOST_BYTES = 16 * MOST_OBJECTS + 8 * MOST_NUMBERS;

    /** The n-th call of a run, n from 0 to 511: exactly one call. */
    private interface Nth {
        int call(TrayBench x, int n);
    }

    /** What the n-th call is due to answer. */
    private interface Answer {
        int of(int n);
    }

    public static void main(String[] args) {
        rowsAnew();
        rowsAnewAndWritten();
        rowsTakenAndLaid();
        plotsAnew();
        plotsAnewAndSet();
        furrowsLifted();
        rowsAndPlotsAnew();
        days();
        daysThatEnd();
        cellsWorkedWith();
        cellsCopied();
        furrowsSown();
        sizesRefused();
        Due.end();
    }

    private static void rowsAnew() {
        run("a row of 64 at every call", (x, n) -> x.lay(n % 4, n / 4 % Due.SORTS, 64), n -> 0);
        run("the same row of 64 at every call", (x, n) -> x.lay(3, Due.WATER, 64), n -> 0);
        run("a row of 0 to 64 at every call", (x, n) -> x.lay(0, n % Due.SORTS, n % 65), n -> 0);
    }

    private static void rowsAnewAndWritten() {
        run("a row of 64, whose last cell is read and written", (x, n) -> switch (n % 4) {
            case 0 -> x.lay(n / 4 % 4, n / 16 % Due.SORTS, 64);
            case 1 -> x.read(n / 4 % 4, n / 16 % Due.SORTS, 63);
            case 2 -> x.told();
            default -> x.write(n / 4 % 4, n / 16 % Due.SORTS, 63, n);
        }, n -> 0);
    }

    private static void rowsTakenAndLaid() {
        run("a row of 64, which is told, taken and told again", (x, n) -> switch (n % 4) {
            case 0 -> x.lay(n / 4 % 4, n / 16 % Due.SORTS, 64);
            case 1 -> x.take(n / 4 % 4, n / 16 % Due.SORTS);
            case 2 -> x.told();
            default -> x.length(n / 4 % 4, n / 16 % Due.SORTS);
        }, n -> n % 4 == 2 ? 64 : n % 4 == 3 ? Due.LACK : 0);
    }

    private static void plotsAnew() {
        run("a plot of 64 and 64 at every call", (x, n) -> x.plot(n % 2, n / 2 % Due.SORTS, 64, 64), n -> 0);
        run("the same plot of 64 and 64 at every call", (x, n) -> x.plot(1, Due.SEEDS, 64, 64), n -> 0);
        run("a plot of 0 to 64 at every call", (x, n) -> x.plot(0, n % Due.SORTS, n % 65, 64 - n % 65), n -> 0);
    }

    private static void plotsAnewAndSet() {
        run("a plot of 64 and 64, whose last cell is looked at and set", (x, n) -> switch (n % 4) {
            case 0 -> x.plot(n / 4 % 2, n / 8 % Due.SORTS, 64, 64);
            case 1 -> x.get(n / 4 % 2, 63, 63);
            case 2 -> x.told();
            default -> x.set(n / 4 % 2, 63, 63, n);
        }, n -> 0);
    }

    private static void furrowsLifted() {
        run("a plot of 64 and 64 whose last furrow is lifted", (x, n) -> switch (n % 4) {
            case 0 -> x.plot(n / 4 % 2, n / 8 % Due.SORTS, 64, 64);
            case 1 -> x.lift(n / 4 % 2, 63);
            case 2 -> x.told();
            default -> x.get(n / 4 % 2, 63, 63);
        }, n -> n % 4 == 2 ? 64 : n % 4 == 3 ? Due.LACK : 0);
        run("furrow by furrow", (x, n) -> n % 65 == 0 ? x.plot(0, Due.LIT, 64, 64) : x.lift(0, n % 65 - 1), n -> 0);
    }

    private static void rowsAndPlotsAnew() {
        run("rows and plots of 64 by turns", (x, n) -> n % 3 == 0 ? x.plot(n / 3 % 2, n % Due.SORTS, 64, 64)
            : x.lay(n % 4, n % Due.SORTS, 64), n -> 0);
    }

    /** 64 cells of each sort, all lit; all days that are left then pass over them all. */
    private static void days() {
        run("a day over 64 lit cells at every call", LongRunsTest::dayCall, n -> 0);
        run("a day over 64 cells that are not lit", (x, n) -> n < Due.SORTS ? x.lay(0, n, 64) : x.day(0), n -> 0);
        run("a day over no cells", (x, n) -> n == 0 ? x.lay(0, Due.SEEDS, 0) : x.day(0), n -> 0);
    }

    private static int dayCall(TrayBench x, int n) {
        if (n < Due.SORTS) {
            return x.lay(0, n, 64);
        }
        int i = (n - Due.SORTS) / 3;
        if (i >= 64) {
            return x.day(0);
        }
        int sort = Due.SEEDS + (n - Due.SORTS) % 3;
        return x.write(0, sort, i, sort == Due.WATER ? Due.MOST : 32767 - 1000 * i);
    }

    private static void daysThatEnd() {
        run("a day without SEEDS at every call", (x, n) -> x.day(n % 4), n -> Due.LACK);
        run("where such a day ended", (x, n) -> n % 2 == 0 ? x.day(0) : x.where(1), n -> n % 2 == 0 ? Due.LACK : Due.SEEDS);
        run("a day that ends at cell 63", (x, n) -> n < Due.SORTS ? x.lay(0, n, n == Due.DAYS ? 63 : 64)
            : n % 2 == 0 ? x.day(0) : x.where(0), n -> n < Due.SORTS ? 0 : n % 2 == 0 ? Due.PLACE : n == 5 ? Due.NONE : 63);
    }

    private static void cellsWorkedWith() {
        int[] numbers = {Due.LEAST, Due.MOST, -1, 1, 0, 3, -3, 4, 5};
        for (int sort = 0; sort < Due.SORTS; sort++) {
            int of = sort;
            for (int v : numbers) {
                run("sort " + sort + " changed with " + v, (x, n) -> n == 0 ? x.lay(0, of, 64)
                    : n == 1 ? x.write(0, of, 63, 1000) : x.change(0, of, 63, v), n -> 0);
            }
            int stepped = sort == Due.LIT ? Due.NONE : 0;
            run("sort " + sort + " stepped", (x, n) -> n == 0 ? x.lay(0, of, 64)
                : n == 1 ? x.write(0, of, 63, Due.MOST) : x.step(0, of, 63), n -> n < 2 ? 0 : stepped);
        }
    }

    private static void cellsCopied() {
        for (int sort = 0; sort < Due.SORTS; sort++) {
            int of = sort;
            run("sort " + sort + " copied", (x, n) -> n < 4 ? x.lay(n, of, 64)
                : x.copy(n % 4, of, n % 64, n / 4 % 4, 63 - n % 64), n -> 0);
        }
    }

    private static void furrowsSown() {
        run("64 furrows sown at every call", (x, n) -> n == 0 ? x.plot(0, Due.SEEDS, 64, 64)
            : n == 1 ? x.lay(0, Due.SEEDS, 64) : x.sow(0, n % 64, 63 - n % 64, 0, n % 64), n -> 0);
    }

    private static void sizesRefused() {
        run("rows that are too great", (x, n) -> x.lay(0, n % Due.SORTS, Due.MOST - n), n -> Due.GREAT);
        run("rows below 0", (x, n) -> x.lay(0, n % Due.SORTS, Due.LEAST + n), n -> Due.SIZE);
        run("plots that are too great", (x, n) -> x.plot(0, n % Due.SORTS, Due.MOST - n, Due.MOST), n -> Due.GREAT);
        run("plots below 0", (x, n) -> x.plot(0, n % Due.SORTS, 64, Due.LEAST + n), n -> Due.SIZE);
    }

    private static void run(String what, Nth nth, Answer answer) {
        TrayBench x = new TrayBench();
        for (int n = 0; n < CALLS; n++) {
            String call = what + ", call " + n;
            try {
                Due.due(call, nth.call(x, n), answer.of(n));
            } catch (RuntimeException | Error thrown) {
                Due.holds(call + " ends without throwing " + thrown, false);
                return;
            }
        }
        Held held = new Held(x);
        Due.holds(what + ", " + CALLS + " calls: few objects are kept: " + held.objects(), held.objects() <= MOST_OBJECTS);
        Due.holds(what + ", " + CALLS + " calls: few fields and elements are kept: " + held.numbers(),
            held.numbers() <= MOST_NUMBERS);
        long bytes = bytesMade(nth);
        Due.holds(what + ", " + CALLS + " calls: few bytes are made: " + bytes, bytes <= MOST_BYTES);
    }

    /** What the thread made for an object and its calls, the things that were not kept among them. */
    private static long bytesMade(Nth nth) {
        com.sun.management.ThreadMXBean threads =
            (com.sun.management.ThreadMXBean) ManagementFactory.getThreadMXBean();
        long thread = Thread.currentThread().getId();
        long before = threads.getThreadAllocatedBytes(thread);
        TrayBench x = new TrayBench();
        for (int n = 0; n < CALLS; n++) {
            nth.call(x, n);
        }
        return threads.getThreadAllocatedBytes(thread) - before;
    }
}
