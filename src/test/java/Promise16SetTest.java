/** Promise 16: set. What each sort makes of v is in TermsCellsTest and TermsWaterTest. */
public final class Promise16SetTest {
    public static void main(String[] args) {
        becomes();
        onlyThatCell();
        firstAndLast();
        lackOfTheFurrows();
        noFurrows();
        placeOfTheFurrow();
        lackOfTheFurrow();
        placeOfTheCell();
        Due.end();
    }

    private static int set(TrayBench x, int k, int i) {
        return x.set(0, k, i, 0);
    }

    private static void becomes() {
        Due.sentence(16, "Cell i of furrow k BECOMES v.");
        int[] v = {-7, 70000, 0};
        int[][] numbers = {
            {65529, 4464, 0}, {-7, 4464, 0}, {Due.bits(-1.75f), Due.bits(17500f), 0}, {1, 1, 0}, {-7, 112, 0}};
        for (int sort = 0; sort < Due.SORTS; sort++) {
            TrayBench x = Sample.plotOf(sort);
            for (int n = 0; n < v.length; n++) {
                Due.due("set", x.set(0, 2, 1, v[n]), 0);
                Due.tells("sort " + sort + ", set " + v[n], x, x.get(0, 2, 1), numbers[sort][n]);
            }
        }
    }

    private static void onlyThatCell() {
        Due.sentence(16, "Cell i of furrow k BECOMES v.");
        TrayBench x = Sample.bench();
        Due.due("set", x.set(1, 1, 1, 9), 0);
        Due.due("set tells nothing", x.told(), Sample.TOLD);
        int[][] due = {{101, 102, 103}, {111, 9, 113}};
        for (int k = 0; k < 2; k++) {
            for (int i = 0; i < 3; i++) {
                Due.tells("cell " + i + " of furrow " + k, x, x.get(1, k, i), due[k][i]);
            }
        }
        Due.onlyChanged("set", x, Sample.bench(), Sample.plotPart(1));
    }

    private static void firstAndLast() {
        Due.sentence(16, "Cell i of furrow k BECOMES v.");
        int[] ends = {0, 63};
        for (int sort = 0; sort < Due.SORTS; sort++) {
            for (int k : ends) {
                for (int i : ends) {
                    TrayBench x = Sample.plotOf(sort, 64, 64);
                    Due.due("set", x.set(0, k, i, 1), 0);
                    Due.tells("the cell", x, x.get(0, k, i), sort == Due.WATER ? Due.bits(0.25f) : 1);
                    Due.tells("another cell", x, x.get(0, k, 63 - i), 0);
                    Due.tells("another furrow", x, x.get(0, 63 - k, i), 0);
                }
            }
        }
    }

    private static void lackOfTheFurrows() {
        Due.sentence(16, "As for get().");
        FurrowEdges.lackedFurrows("set", Promise16SetTest::set);
    }

    private static void noFurrows() {
        Due.sentence(16, "As for get().");
        for (int sort = 0; sort < Due.SORTS; sort++) {
            FurrowEdges.noFurrows("set", sort, Promise16SetTest::set);
        }
    }

    private static void placeOfTheFurrow() {
        Due.sentence(16, "As for get().");
        for (int sort = 0; sort < Due.SORTS; sort++) {
            FurrowEdges.placeOfTheFurrow("set", sort, Promise16SetTest::set);
            FurrowEdges.behindFewerFurrows("set", sort, Promise16SetTest::set);
        }
    }

    private static void lackOfTheFurrow() {
        Due.sentence(16, "As for get().");
        for (int sort = 0; sort < Due.SORTS; sort++) {
            FurrowEdges.goneFurrow("set", sort, Promise16SetTest::set);
        }
    }

    private static void placeOfTheCell() {
        Due.sentence(16, "As for get().");
        for (int sort = 0; sort < Due.SORTS; sort++) {
            FurrowEdges.placeOfTheCell("set", sort, Promise16SetTest::set);
        }
    }
}
