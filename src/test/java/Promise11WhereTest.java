/** Promise 11: where. */
public final class Promise11WhereTest {
    private static final String ENDED = "Of the latest day(), if it answered 1 or 2: the cell (what 0), the sort of the"
        + " row that was lacked or had no such cell (what 1).";

    public static void main(String[] args) {
        behindLit();
        behindDaysOfALitCell();
        behindDaysOfADarkCell();
        behindWater();
        behindMarks();
        behindTheLatestDay();
        behindALackOfSeeds();
        aheadOfAnyDay();
        behindADayThatAnsweredZero();
        forAnotherWhat();
        aDayOfNoTrayDoesNotCount();
        otherCallsDoNotCount();
        tellsNothing();
        Due.end();
    }

    private static void ended(String what, TrayBench x, int cell, int sort) {
        Due.due(what + ": where(0)", x.where(0), cell);
        Due.due(what + ": where(1)", x.where(1), sort);
    }

    private static void ends(int sort, boolean dark, int fault, int cell) {
        DayEnd end = new DayEnd(sort, dark, fault, cell);
        TrayBench x = end.made();
        Due.due(end.toString(), x.day(2), fault);
        ended(end.toString(), x, cell, sort);
    }

    private static void endsByPlace(int sort, boolean dark) {
        for (int cell = 0; cell < DayEnd.CELLS; cell++) {
            ends(sort, dark, Due.PLACE, cell);
        }
    }

    private static void behindLit() {
        Due.sentence(11, ENDED);
        ends(Due.LIT, false, Due.LACK, 0);
        endsByPlace(Due.LIT, false);
    }

    private static void behindDaysOfALitCell() {
        Due.sentence(11, ENDED);
        ends(Due.DAYS, false, Due.LACK, 0);
        endsByPlace(Due.DAYS, false);
    }

    private static void behindDaysOfADarkCell() {
        Due.sentence(11, ENDED);
        ends(Due.DAYS, true, Due.LACK, 0);
        endsByPlace(Due.DAYS, true);
    }

    private static void behindWater() {
        Due.sentence(11, ENDED);
        for (int cell = 0; cell < DayEnd.CELLS; cell++) {
            ends(Due.WATER, false, Due.LACK, cell);
        }
        endsByPlace(Due.WATER, false);
    }

    private static void behindMarks() {
        Due.sentence(11, ENDED);
        for (int cell = 0; cell < DayEnd.CELLS; cell++) {
            ends(Due.MARKS, false, Due.LACK, cell);
        }
        endsByPlace(Due.MARKS, false);
        TrayBench x = DayEnd.whole(64);
        DayEnd.fill(x, Due.MARKS, 63);
        x.day(2);
        ended("the last of 64", x, 63, Due.MARKS);
    }

    private static void behindTheLatestDay() {
        Due.sentence(11, ENDED);
        TrayBench x = Sample.bench();
        ended("at first", x, 1, Due.LIT);
        x.take(0, Due.WATER);
        Due.due("day", x.day(0), Due.LACK);
        ended("another tray", x, 1, Due.WATER);
        x.lay(0, Due.DAYS, 2);
        x.write(0, Due.LIT, 1, 0);
        Due.due("day", x.day(0), Due.PLACE);
        ended("the same tray", x, 2, Due.DAYS);
    }

    private static void behindALackOfSeeds() {
        Due.sentence(11, "0 and SEEDS, where it lacked the row of SEEDS ahead of all cells.");
        TrayBench x = Sample.bench();
        Due.due("day", x.day(2), Due.LACK);
        ended("all rows lacked", x, 0, Due.SEEDS);
        TrayBench y = DayEnd.whole(3);
        y.day(2);
        y.take(2, Due.SEEDS);
        Due.due("day", y.day(2), Due.LACK);
        ended("only SEEDS lacked", y, 0, Due.SEEDS);
        TrayBench z = new TrayBench();
        Due.due("day", z.day(3), Due.LACK);
        ended("the first call of all", z, 0, Due.SEEDS);
    }

    private static void aheadOfAnyDay() {
        Due.sentence(11, "NONE otherwise.");
        TrayBench x = new TrayBench();
        ended("at first", x, Due.NONE, Due.NONE);
        ended("ahead of any day", DayEnd.whole(2), Due.NONE, Due.NONE);
        x.day(4);
        ended("behind a day of no tray alone", x, Due.NONE, Due.NONE);
    }

    private static void behindADayThatAnsweredZero() {
        Due.sentence(11, "NONE otherwise.");
        TrayBench x = DayEnd.whole(2);
        Due.due("day", x.day(2), 0);
        ended("a whole day, the first", x, Due.NONE, Due.NONE);
        TrayBench y = Sample.bench();
        Due.due("day", y.day(0), 0);
        ended("a whole day behind one that ended", y, Due.NONE, Due.NONE);
        TrayBench z = Sample.bench();
        Due.due("day", z.day(1), 0);
        ended("a day over no cells", z, Due.NONE, Due.NONE);
        z.day(2);
        z.day(1);
        ended("a day over no cells behind a LACK of SEEDS", z, Due.NONE, Due.NONE);
    }

    private static void forAnotherWhat() {
        Due.sentence(11, "NONE otherwise.");
        int[] others = {-1, 2, 3, 4, 256, 65536, Due.LEAST, Due.MOST};
        for (int what : others) {
            Due.refused("where(" + what + ") behind a PLACE", Sample::bench, x -> x.where(what), Due.NONE);
            Due.refused("where(" + what + ") at first", TrayBench::new, x -> x.where(what), Due.NONE);
            TrayBench y = Sample.bench();
            y.day(2);
            Due.due("where(" + what + ") behind a LACK", y.where(what), Due.NONE);
            y.day(0);
            Due.due("where(" + what + ") behind a whole day", y.where(what), Due.NONE);
        }
    }

    private static void aDayOfNoTrayDoesNotCount() {
        Due.sentence(11, "(A day() that answered NONE does not count.)");
        int[] trays = {-1, 4, Due.LEAST, Due.MOST};
        for (int tray : trays) {
            TrayBench x = Sample.bench();
            Due.due("day", x.day(tray), Due.NONE);
            ended("behind a PLACE", x, 1, Due.LIT);
            x.day(2);
            x.day(tray);
            ended("behind a LACK of SEEDS", x, 0, Due.SEEDS);
            x.day(0);
            x.day(tray);
            ended("behind a whole day", x, Due.NONE, Due.NONE);
        }
    }

    private static void otherCallsDoNotCount() {
        Due.sentence(11, ENDED);
        TrayBench x = Sample.bench();
        x.lay(3, Due.LIT, 2);
        x.take(3, Due.SEEDS);
        x.read(3, Due.SEEDS, 0);
        x.write(0, Due.MARKS, 9, 9);
        x.get(0, 1, 0);
        x.sow(0, 0, 0, 3, 0);
        ended("other calls, with faults too", x, 1, Due.LIT);
    }

    private static void tellsNothing() {
        Due.sentence(11, ENDED);
        TrayBench x = Sample.bench();
        x.where(0);
        x.where(1);
        x.where(2);
        Due.same("where", x, Sample.bench());
    }
}
