/** Promise 10: day. How WATER is rounded and held is in TermsWaterTest. */
public final class Promise10DayTest {
    private static final String ENDS = "The first of all these acts for which the tray lacks the row, or its row has no"
        + " such cell, ends the day: LACK, PLACE; what was done ahead of it stays.";
    private static final String TELLS =
        "TELLS how many seeds left their cells in all (also then, but not for a LACK of SEEDS).";

    public static void main(String[] args) {
        asManyAsSeeds();
        noSeedsRow();
        emptySeedsRow();
        longerRows();
        litCells();
        litDaysAreCut();
        waterIsZeroOrMore();
        waterOfHardlyOne();
        quarterRoundedDown();
        marksAreCut();
        quarterOfZero();
        quarterOfZeroNeedsMarks();
        darkCells();
        darkCellsNeedNoWaterNorMarks();
        dryCellsNeedNoMarks();
        endsAtLit();
        endsAtDaysOfALitCell();
        endsAtDaysOfADarkCell();
        endsAtWater();
        endsAtMarks();
        endsAtTheFirstOfSeveral();
        seedsLongerThanEach();
        tellsTheSum();
        tellsAlsoWhenItEnds();
        tellsNothingWithoutSeeds();
        otherTraysAndPlotsStay();
        Due.end();
    }

    private static void cells(String what, TrayBench x, int i, int marks, int seeds, float water, int days) {
        Due.cell(what + ": MARKS", x, 2, Due.MARKS, i, marks);
        Due.cell(what + ": SEEDS", x, 2, Due.SEEDS, i, seeds);
        Due.water(what + ": WATER", x, 2, i, water);
        Due.cell(what + ": DAYS", x, 2, Due.DAYS, i, days);
    }

    private static void asManyAsSeeds() {
        Due.sentence(10, "A day passes over the cells i = 0, 1, .., as many as the tray's row of SEEDS has (LACK).");
        int[] sizes = {1, 2, 63, 64};
        for (int n : sizes) {
            TrayBench x = DayEnd.whole(n);
            Due.tells("day over " + n, x, x.day(2), 2 * n);
            cells("the first of " + n, x, 0, 12, 6, 0f, 6);
            cells("the last of " + n, x, n - 1, 12, 6, 0f, 6);
            Due.cell("LIT stays", x, 2, Due.LIT, n - 1, 1);
        }
    }

    private static void noSeedsRow() {
        Due.sentence(10, "A day passes over the cells i = 0, 1, .., as many as the tray's row of SEEDS has (LACK).");
        TrayBench x = DayEnd.whole(2);
        x.take(2, Due.SEEDS);
        Due.due("day", x.day(2), Due.LACK);
        TrayBench other = DayEnd.whole(2);
        other.take(2, Due.SEEDS);
        Due.onlyChanged("day without SEEDS", x, other, 0);
        Due.due("day without any row", new TrayBench().day(0), Due.LACK);
    }

    private static void emptySeedsRow() {
        Due.sentence(10, "A day passes over the cells i = 0, 1, .., as many as the tray's row of SEEDS has (LACK).");
        TrayBench x = DayEnd.whole(2);
        x.length(2, Due.MARKS);
        x.lay(2, Due.SEEDS, 0);
        Due.tells("day over none", x, x.day(2), 0);
        cellsAhead("day over none", x, 0);
        TrayBench y = Sample.bench();
        y.lay(2, Due.SEEDS, 0);
        Due.tells("day over none, the other rows lacked", y, y.day(2), 0);
        TrayBench z = Sample.bench();
        Due.tells("day over none, the other rows empty", z, z.day(1), 0);
    }

    private static void cellsAhead(String what, TrayBench x, int i) {
        Due.cell(what, x, 2, Due.MARKS, i, 10);
        Due.water(what, x, 2, i, 1f);
        Due.cell(what, x, 2, Due.LIT, i, 1);
        Due.cell(what, x, 2, Due.DAYS, i, 5);
    }

    private static void longerRows() {
        Due.sentence(10, "A day passes over the cells i = 0, 1, .., as many as the tray's row of SEEDS has (LACK).");
        TrayBench x = DayEnd.whole(4);
        DayEnd.fill(x, Due.SEEDS, 2);
        Due.tells("day over 2 of 4", x, x.day(2), 4);
        cells("the last", x, 1, 12, 6, 0f, 6);
        cellsAhead("behind the last", x, 2);
        cellsAhead("behind the last", x, 3);
    }

    private static void litCells() {
        Due.sentence(10, "if cell i of LIT is 1, cell i of DAYS is 1 more (CUT), and cell i of WATER 1 less;");
        TrayBench x = DayEnd.whole(1);
        x.write(2, Due.WATER, 0, 14);
        x.write(2, Due.LIT, 0, -9);
        Due.tells("day 1", x, x.day(2), 2);
        cells("day 1", x, 0, 12, 6, 2.5f, 6);
        Due.tells("day 2", x, x.day(2), 1);
        cells("day 2", x, 0, 13, 5, 1.5f, 7);
        Due.tells("day 3", x, x.day(2), 1);
        cells("day 3", x, 0, 14, 4, 0.5f, 8);
        Due.tells("day 4", x, x.day(2), 0);
        cells("day 4", x, 0, 14, 4, -0.5f, 9);
    }

    private static void litDaysAreCut() {
        Due.sentence(10, "if cell i of LIT is 1, cell i of DAYS is 1 more (CUT), and cell i of WATER 1 less;");
        int[] days = {126, 127, -128, -1, 0};
        int[] then = {127, -128, -127, 0, 1};
        TrayBench x = DayEnd.whole(days.length);
        for (int i = 0; i < days.length; i++) {
            x.write(2, Due.DAYS, i, days[i]);
        }
        Due.due("day", x.day(2), 0);
        for (int i = 0; i < days.length; i++) {
            Due.cell("DAYS were " + days[i], x, 2, Due.DAYS, i, then[i]);
        }
    }

    private static void waterIsZeroOrMore() {
        Due.sentence(10, "if that is 0 or more then,");
        int[] water = {3, 4, 5, 0, -4, 4000000, -4000000};
        float[] then = {-0.25f, 0f, 0.25f, -1f, -2f, 999999f, -1000000f};
        TrayBench x = DayEnd.whole(water.length);
        for (int i = 0; i < water.length; i++) {
            x.write(2, Due.WATER, i, water[i]);
        }
        Due.tells("day", x, x.day(2), 6);
        for (int i = 0; i < water.length; i++) {
            boolean wet = water[i] >= 4;
            cells("WATER was " + water[i] + " / 4", x, i, wet ? 12 : 10, wet ? 6 : 8, then[i], 6);
        }
    }

    /** 4095 times 4097, over 2 to the 24, is the last float below 1. */
    private static void waterOfHardlyOne() {
        Due.sentence(10, "if that is 0 or more then,");
        TrayBench x = DayEnd.whole(3);
        x.write(2, Due.WATER, 0, 4095);
        for (int n = 0; n < 10; n++) {
            x.change(2, Due.WATER, 0, 1);
        }
        x.change(2, Due.WATER, 0, 4097);
        Due.water("the last below 1", x, 2, 0, Math.nextDown(1f));
        x.write(2, Due.WATER, 1, 0);
        x.change(2, Due.WATER, 1, -4);
        for (int n = 0; n < 70; n++) {
            x.change(2, Due.WATER, 2, 1);
        }
        Due.tells("day", x, x.day(2), 0);
        cells("the last below 1", x, 0, 10, 8, Math.nextDown(1f) - 1f, 6);
        cells("0 with a sign", x, 1, 10, 8, -1f, 6);
        cells("hardly more than 0", x, 2, 10, 8, -1f, 6);
    }

    private static void quarterRoundedDown() {
        Due.sentence(10, "a quarter (rounded down) of cell i of SEEDS leaves it, and comes to cell i of MARKS (CUT;");
        int[] seeds = {0, 1, 3, 4, 5, 7, 8, 32764, 32767, -1, -3, -4, -5, -8, -32765, -32768};
        int[] quarters = {0, 0, 0, 1, 1, 1, 2, 8191, 8191, -1, -1, -1, -2, -2, -8192, -8192};
        for (int n = 0; n < seeds.length; n++) {
            TrayBench x = DayEnd.whole(1);
            x.write(2, Due.SEEDS, 0, seeds[n]);
            x.write(2, Due.MARKS, 0, 10000);
            Due.tells("a quarter of " + seeds[n], x, x.day(2), quarters[n]);
            cells("a quarter of " + seeds[n], x, 0, 10000 + quarters[n], seeds[n] - quarters[n], 0f, 6);
        }
    }

    private static void marksAreCut() {
        Due.sentence(10, "a quarter (rounded down) of cell i of SEEDS leaves it, and comes to cell i of MARKS (CUT;");
        int[][] rows = {{65535, 4, 0}, {65534, 4, 65535}, {65535, 32767, 8190}, {57344, 32767, 65535},
            {57345, 32767, 0}, {0, -1, 65535}, {1, -4, 0}, {0, -32768, 57344}, {8192, -32768, 0}};
        for (int[] row : rows) {
            TrayBench x = DayEnd.whole(1);
            x.write(2, Due.MARKS, 0, row[0]);
            x.write(2, Due.SEEDS, 0, row[1]);
            Due.due("day", x.day(2), 0);
            Due.cell("MARKS were " + row[0] + ", SEEDS " + row[1], x, 2, Due.MARKS, 0, row[2]);
        }
    }

    private static void quarterOfZero() {
        Due.sentence(10, "also a quarter of 0");
        for (int seeds = 0; seeds < 4; seeds++) {
            TrayBench x = DayEnd.whole(1);
            x.write(2, Due.SEEDS, 0, seeds);
            x.length(2, Due.SEEDS);
            Due.tells("day over " + seeds, x, x.day(2), 0);
            cells("day over " + seeds, x, 0, 10, seeds, 0f, 6);
        }
    }

    private static void quarterOfZeroNeedsMarks() {
        Due.sentence(10, "also a quarter of 0");
        for (int seeds = 0; seeds < 4; seeds++) {
            TrayBench x = DayEnd.whole(2);
            x.take(2, Due.MARKS);
            x.write(2, Due.SEEDS, 0, seeds);
            endsTelling("without MARKS, over " + seeds, x, Due.LACK, 0);
            x.lay(2, Due.MARKS, 0);
            x.write(2, Due.WATER, 0, 4);
            endsTelling("with no cell of MARKS, over " + seeds, x, Due.PLACE, 0);
            Due.cell("its seeds stay", x, 2, Due.SEEDS, 0, seeds);
            Due.cell("the next seeds stay", x, 2, Due.SEEDS, 1, 8);
        }
    }

    private static void endsTelling(String what, TrayBench x, int fault, int number) {
        Due.due(what, x.day(2), fault);
        Due.due(what + ", told()", x.told(), number);
    }

    private static void darkCells() {
        Due.sentence(10, "If cell i of LIT is 0, cell i of DAYS becomes 0.");
        int[] days = {0, 5, 127, -128, -1};
        TrayBench x = DayEnd.whole(days.length);
        for (int i = 0; i < days.length; i++) {
            x.write(2, Due.LIT, i, 0);
            x.write(2, Due.DAYS, i, days[i]);
        }
        Due.tells("a dark day", x, x.day(2), 0);
        for (int i = 0; i < days.length; i++) {
            cells("DAYS were " + days[i], x, i, 10, 8, 1f, 0);
            Due.cell("LIT stays", x, 2, Due.LIT, i, 0);
        }
    }

    private static void darkCellsNeedNoWaterNorMarks() {
        Due.sentence(10, "If cell i of LIT is 0, cell i of DAYS becomes 0.");
        TrayBench x = DayEnd.whole(2);
        x.lay(2, Due.LIT, 2);
        x.take(2, Due.MARKS);
        x.take(2, Due.WATER);
        Due.tells("both lacked", x, x.day(2), 0);
        Due.cell("both lacked", x, 2, Due.DAYS, 1, 0);
        x.write(2, Due.DAYS, 1, 5);
        x.lay(2, Due.MARKS, 0);
        x.lay(2, Due.WATER, 0);
        Due.tells("both empty", x, x.day(2), 0);
        Due.cell("both empty", x, 2, Due.DAYS, 1, 0);
    }

    private static void dryCellsNeedNoMarks() {
        Due.sentence(10, "if that is 0 or more then,");
        TrayBench x = DayEnd.whole(2);
        x.take(2, Due.MARKS);
        x.write(2, Due.WATER, 0, 3);
        x.write(2, Due.WATER, 1, -1);
        Due.tells("MARKS lacked", x, x.day(2), 0);
        x.lay(2, Due.MARKS, 0);
        Due.tells("MARKS empty", x, x.day(2), 0);
        Due.cell("DAYS", x, 2, Due.DAYS, 1, 7);
        Due.cell("SEEDS", x, 2, Due.SEEDS, 1, 8);
    }

    private static void ends(int sort, boolean dark, int fault, int cell) {
        DayEnd end = new DayEnd(sort, dark, fault, cell);
        TrayBench x = end.made();
        endsTelling(end.toString(), x, fault, end.told());
        end.checkCells(x);
    }

    private static void endsByPlace(int sort, boolean dark) {
        for (int cell = 0; cell < DayEnd.CELLS; cell++) {
            ends(sort, dark, Due.PLACE, cell);
        }
    }

    private static void endsAtLit() {
        Due.sentence(10, ENDS);
        ends(Due.LIT, false, Due.LACK, 0);
        endsByPlace(Due.LIT, false);
    }

    private static void endsAtDaysOfALitCell() {
        Due.sentence(10, ENDS);
        ends(Due.DAYS, false, Due.LACK, 0);
        endsByPlace(Due.DAYS, false);
    }

    private static void endsAtDaysOfADarkCell() {
        Due.sentence(10, ENDS);
        ends(Due.DAYS, true, Due.LACK, 0);
        endsByPlace(Due.DAYS, true);
    }

    private static void endsAtWater() {
        Due.sentence(10, ENDS);
        for (int cell = 0; cell < DayEnd.CELLS; cell++) {
            ends(Due.WATER, false, Due.LACK, cell);
        }
        endsByPlace(Due.WATER, false);
    }

    private static void endsAtMarks() {
        Due.sentence(10, ENDS);
        for (int cell = 0; cell < DayEnd.CELLS; cell++) {
            ends(Due.MARKS, false, Due.LACK, cell);
        }
        endsByPlace(Due.MARKS, false);
    }

    private static void endsAtTheFirstOfSeveral() {
        Due.sentence(10, ENDS);
        int[] order = {Due.LIT, Due.DAYS, Due.WATER, Due.MARKS};
        for (int first = 0; first < order.length; first++) {
            for (int fault = Due.LACK; fault <= Due.PLACE; fault++) {
                TrayBench x = DayEnd.whole(2);
                for (int n = first; n < order.length; n++) {
                    boolean taken = (n == first) == (fault == Due.LACK);
                    x.take(2, order[n]);
                    if (!taken) {
                        x.lay(2, order[n], 0);
                    }
                }
                String what = "from sort " + order[first] + " on";
                endsTelling(what, x, fault, order[first] == Due.MARKS ? 2 : 0);
                Due.due(what + ", where(1)", x.where(1), order[first]);
            }
        }
    }

    private static void seedsLongerThanEach() {
        Due.sentence(10, ENDS);
        int[] others = {Due.MARKS, Due.WATER, Due.LIT, Due.DAYS};
        for (int sort : others) {
            TrayBench x = DayEnd.whole(63);
            x.lay(2, Due.SEEDS, 64);
            DayEnd.fill(x, sort, 62);
            String what = "sort " + sort + " of 62 cells, SEEDS of 64";
            endsTelling(what, x, Due.PLACE, 0);
            Due.due(what + ", where(0)", x.where(0), 62);
        }
        TrayBench y = DayEnd.whole(63);
        y.lay(2, Due.SEEDS, 64);
        endsTelling("each of 63 cells, SEEDS of 64", y, Due.PLACE, 0);
        Due.due("where(0)", y.where(0), 63);
        Due.due("where(1)", y.where(1), Due.LIT);
        Due.cell("the last day that passed", y, 2, Due.DAYS, 62, 6);
    }

    private static void tellsTheSum() {
        Due.sentence(10, TELLS);
        int[] seeds = {32767, 32767, 32767, 32767, 32767, 32767, 32767, 32767, 32767};
        TrayBench x = DayEnd.whole(seeds.length);
        for (int i = 0; i < seeds.length; i++) {
            x.write(2, Due.SEEDS, i, seeds[i]);
        }
        Due.tells("more than a cell can hold", x, x.day(2), 9 * 8191);
        TrayBench y = DayEnd.whole(3);
        y.write(2, Due.SEEDS, 0, -32768);
        y.write(2, Due.SEEDS, 1, 5);
        Due.tells("less than none", y, y.day(2), -8192 + 1 + 2);
        TrayBench z = DayEnd.whole(4);
        z.write(2, Due.LIT, 1, 0);
        z.write(2, Due.WATER, 2, 3);
        Due.tells("of wet and lit cells alone", z, z.day(2), 4);
        Due.tells("anew each day", z, z.day(2), 0);
    }

    private static void tellsAlsoWhenItEnds() {
        Due.sentence(10, TELLS);
        TrayBench x = DayEnd.whole(4);
        x.write(2, Due.SEEDS, 1, 32767);
        x.write(2, Due.SEEDS, 2, -1);
        x.lay(2, Due.LIT, 3);
        x.write(2, Due.LIT, 0, 1);
        x.write(2, Due.LIT, 1, 1);
        x.write(2, Due.LIT, 2, 1);
        endsTelling("by PLACE of LIT behind three cells", x, Due.PLACE, 2 + 8191 - 1);
        endsTelling("by PLACE of LIT behind three dry cells", x, Due.PLACE, 0);
        TrayBench y = DayEnd.whole(2);
        y.take(2, Due.MARKS);
        endsTelling("by LACK of MARKS, of seeds that had left", y, Due.LACK, 2);
        y.length(2, Due.SEEDS);
        y.take(2, Due.LIT);
        endsTelling("by LACK of LIT, of none that had left", y, Due.LACK, 0);
    }

    private static void tellsNothingWithoutSeeds() {
        Due.sentence(10, TELLS);
        TrayBench x = Sample.bench();
        Due.due("day", x.day(2), Due.LACK);
        Due.due("told()", x.told(), Sample.TOLD);
        TrayBench y = DayEnd.whole(3);
        y.day(2);
        y.take(2, Due.SEEDS);
        y.length(2, Due.DAYS);
        Due.due("day", y.day(2), Due.LACK);
        Due.due("told()", y.told(), 3);
    }

    private static void otherTraysAndPlotsStay() {
        Due.sentence(10, "A day passes over the cells i = 0, 1, .., as many as the tray's row of SEEDS has (LACK).");
        TrayBench x = Sample.bench();
        Due.due("day", x.day(0), 0);
        Integer[] ownRows = {0, 1, 2, 3, 4, 5};
        Due.onlyChanged("day over tray 0", x, Sample.bench(), ownRows);
    }
}
