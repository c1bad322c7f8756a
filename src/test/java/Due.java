import java.io.IOException;
import java.io.UncheckedIOException;
import java.util.Arrays;
import java.util.function.Supplier;
import java.util.function.ToIntFunction;

/** Counts the answers that are not the ones that are due, and prints them below their sentence. */
final class Due {
    static final int MARKS = 0;
    static final int SEEDS = 1;
    static final int WATER = 2;
    static final int LIT = 3;
    static final int DAYS = 4;
    static final int SORTS = 5;

    static final int NONE = -1;
    static final int LACK = 1;
    static final int PLACE = 2;
    static final int SIZE = 3;
    static final int GREAT = 4;

    static final int LEAST = Integer.MIN_VALUE;
    static final int MOST = Integer.MAX_VALUE;

    /** Stands for the section 'Terms' where the number of a promise is asked for. */
    static final int TERMS = 0;

    private static final int MOST_SECONDS = 120;

    private static int wrong = 0;

    static {
        // a call that does not end must fail the test, not hold up all that come after it
        Thread watch = new Thread(new Watch(Thread.currentThread(), MOST_SECONDS));
        watch.setDaemon(true);
        watch.start();
    }

    private Due() {
    }

    /**
     * Begins the test of a sentence. The words are looked up in the document, so that no test goes
     * on to cite what the document no longer says; a checkout without the document can do without.
     */
    static void sentence(int promise, String words) {
        String test = new Throwable().getStackTrace()[1].getMethodName();
        System.out.println((promise == TERMS ? "Terms" : "Promise " + promise) + ", " + test + ": '" + words + "'");
        String document = document();
        if (!document.isEmpty()) {
            String heading = promise == TERMS ? "\n## Terms\n" : "\n## Promise " + promise + ": ";
            String section = Texts.between(document, heading, "\n## ").replaceAll("\\s+", " ");
            holds("the document's section has these words", section.contains(words));
        }
    }

    private static String document() {
        try {
            return Texts.document();
        } catch (IOException e) {
            throw new UncheckedIOException(e);
        }
    }

    static void holds(String what, boolean so) {
        if (!so) {
            wrong++;
            System.out.println("  does not hold: " + what);
        }
    }

    static void due(String what, long got, long want) {
        if (got != want) {
            wrong++;
            System.out.println("  " + what + " answered " + got + ", due is " + want);
        }
    }

    /** The call's answer is due to be 0, and what it told to be the number. */
    static void tells(String what, TrayBench x, int answer, int number) {
        due(what, answer, 0);
        due(what + ", told()", x.told(), number);
    }

    static void cell(String what, TrayBench x, int tray, int sort, int i, int number) {
        tells(what + ": read(" + tray + ", " + sort + ", " + i + ")", x, x.read(tray, sort, i), number);
    }

    static void water(String what, TrayBench x, int tray, int i, float number) {
        cell(what, x, tray, WATER, i, bits(number));
    }

    static int bits(float number) {
        return Float.floatToRawIntBits(number);
    }

    /** The call is due to answer so and to do nothing: what it was made on stays as made. */
    static void refused(String what, Supplier<TrayBench> made, ToIntFunction<TrayBench> call, int answer) {
        TrayBench x = made.get();
        due(what, call.applyAsInt(x), answer);
        same(what, x, made.get());
    }

    /** As refused(), but the call may tell something. */
    static void onlyTells(String what, Supplier<TrayBench> made, ToIntFunction<TrayBench> call, int number) {
        TrayBench x = made.get();
        tells(what, x, call.applyAsInt(x), number);
        same(what, "but for told()", Sample.rest(x), Sample.rest(made.get()));
    }

    static void same(String what, TrayBench x, TrayBench other) {
        due(what + ", then told()", x.told(), other.told());
        same(what, "with all", Sample.rest(x), Sample.rest(other));
    }

    /** Of all that the object holds, only the named parts may be other than what the other one holds. */
    static void onlyChanged(String what, TrayBench x, TrayBench other, Integer... parts) {
        String[] got = Sample.rest(x).split(";");
        String[] want = Sample.rest(other).split(";");
        for (int n = 0; n < want.length; n++) {
            if (!Arrays.asList(parts).contains(n)) {
                same(what, "elsewhere", got[n], want[n]);
            }
        }
    }

    private static void same(String what, String extent, String got, String want) {
        if (!got.equals(want)) {
            wrong++;
            System.out.println("  " + what + ", " + extent + ", left" + got + "\n  due is" + want);
        }
    }

    static int wrong() {
        return wrong;
    }

    static void end() {
        System.out.println(wrong == 0 ? "all answers are as due" : wrong + " answers are not as due");
        if (wrong != 0) {
            System.exit(1);
        }
    }
}
