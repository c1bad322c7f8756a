/** The furrows and cells at which each call on a cell of plot 0 is tried. */
final class FurrowEdges {
    private static final int[] OUTSIDE = {-1, 3, 64, Due.LEAST, Due.MOST};

    /** A call on cell i of furrow k of plot 0. */
    interface Call {
        int on(TrayBench x, int k, int i);
    }

    private FurrowEdges() {
    }

    static void lackedFurrows(String name, Call call) {
        int[] places = {0, -1, 1, 64, Due.LEAST, Due.MOST};
        for (int k : places) {
            for (int i : places) {
                Due.refused(name + " " + k + " " + i + " at first", TrayBench::new, x -> call.on(x, k, i), Due.LACK);
            }
        }
    }

    static void noFurrows(String name, int sort, Call call) {
        int[] places = {0, -1, 1, Due.LEAST, Due.MOST};
        for (int k : places) {
            Due.refused(name + " " + k + " of none", () -> Sample.plotOf(sort, 0, 2), x -> call.on(x, k, 0), Due.PLACE);
        }
    }

    static void placeOfTheFurrow(String name, int sort, Call call) {
        int[] places = {0, 1, -1, 2, Due.LEAST, Due.MOST};
        for (int k : OUTSIDE) {
            for (int i : places) {
                Due.refused(name + " " + k + " " + i, () -> Sample.plotOf(sort), x -> call.on(x, k, i), Due.PLACE);
            }
        }
        Due.refused(name + " 64 0 of 64", () -> Sample.plotOf(sort, 64, 1), x -> call.on(x, 64, 0), Due.PLACE);
        Due.refused(name + " -1 0 of 64", () -> Sample.plotOf(sort, 64, 1), x -> call.on(x, -1, 0), Due.PLACE);
    }

    /** Behind furrows of which there were more once, and which may still be held. */
    static void behindFewerFurrows(String name, int sort, Call call) {
        Due.refused(name + " 1 0 of 1", () -> Sample.plotOf(sort, 1, 1), x -> call.on(x, 1, 0), Due.PLACE);
        Due.refused(name + " 2 0 of 1", () -> Sample.plotOf(sort, 1, 1), x -> call.on(x, 2, 0), Due.PLACE);
        Due.refused(name + " 0 1 of 1", () -> Sample.plotOf(sort, 1, 1), x -> call.on(x, 0, 1), Due.PLACE);
    }

    static void goneFurrow(String name, int sort, Call call) {
        int[] places = {0, 1, -1, 2, 64, Due.LEAST, Due.MOST};
        for (int i : places) {
            Due.refused(name + " 1 " + i, () -> Sample.plotOf(sort), x -> call.on(x, 1, i), Due.LACK);
        }
    }

    static void placeOfTheCell(String name, int sort, Call call) {
        int[] places = {-1, 2, 64, Due.LEAST, Due.MOST};
        for (int i : places) {
            Due.refused(name + " 0 " + i, () -> Sample.plotOf(sort), x -> call.on(x, 0, i), Due.PLACE);
            Due.refused(name + " 2 " + i, () -> Sample.plotOf(sort), x -> call.on(x, 2, i), Due.PLACE);
        }
        Due.refused(name + " 0 64 of 64", () -> Sample.plotOf(sort, 1, 64), x -> call.on(x, 0, 64), Due.PLACE);
        Due.refused(name + " 0 0 of none", () -> Sample.plotOf(sort, 3, 0), x -> call.on(x, 0, 0), Due.PLACE);
        Due.refused(name + " 2 -1 of none", () -> Sample.plotOf(sort, 3, 0), x -> call.on(x, 2, -1), Due.PLACE);
    }
}
