/** Counts the answers that are not the ones that are due, and prints them. */
final class Due {
    static final int MARKS = 0;
    static final int SEEDS = 1;
    static final int WATER = 2;
    static final int LIT = 3;
    static final int DAYS = 4;

    static final int NONE = -1;
    static final int LACK = 1;
    static final int PLACE = 2;
    static final int SIZE = 3;
    static final int GREAT = 4;

    private static int wrong = 0;

    private Due() {
    }

    static void due(String what, long got, long want) {
        if (got != want) {
            wrong++;
            System.out.println(what + " answered " + got + ", due is " + want);
        }
    }

    /** The call's answer is due to be 0, and what it told to be the number. */
    static void tells(String what, TrayBench x, int answer, int number) {
        due(what, answer, 0);
        due(what + ", told()", x.told(), number);
    }

    static void cell(String what, TrayBench x, int tray, int sort, int i, int number) {
        tells(what + ": read(" + tray + ", " + sort + ", " + i + ")", x, x.read(tray, sort, i), number);
    }

    static void water(String what, TrayBench x, int tray, int i, float number) {
        cell(what, x, tray, WATER, i, Float.floatToRawIntBits(number));
    }

    static int wrong() {
        return wrong;
    }

    static void end() {
        System.out.println(wrong == 0 ? "all answers are as due" : wrong + " answers are not as due");
        if (wrong != 0) {
            System.exit(1);
        }
    }
}
