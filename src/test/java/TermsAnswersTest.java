import java.util.function.ToIntFunction;

/** Terms: what an object is at first, which fault is answered, and how long a thing is told. */
public final class TermsAnswersTest {
    public static void main(String[] args) {
        traysLackAllAtFirst();
        plotsLackFurrowsAtFirst();
        lackOfRowFurrowsAndFurrow();
        placeOfFurrowAndCell();
        sizeBelowZero();
        greatAbove64();
        firstNamedOfSizes();
        firstNamedOfCells();
        firstNamedOfFurrows();
        answersZero();
        toldAcrossRefusedCalls();
        toldAcrossCallsThatTellNothing();
        toldUntilSomethingElse();
        Due.end();
    }

    private static void traysLackAllAtFirst() {
        Due.sentence(Due.TERMS, "(at first it lacks all)");
        for (int tray = 0; tray < 4; tray++) {
            TrayBench x = new TrayBench();
            for (int sort = 0; sort < Due.SORTS; sort++) {
                String what = "tray " + tray + " sort " + sort;
                Due.due(what + " length", x.length(tray, sort), Due.LACK);
                Due.due(what + " take", x.take(tray, sort), Due.LACK);
                Due.due(what + " read", x.read(tray, sort, 0), Due.LACK);
                Due.due(what + " write", x.write(tray, sort, 0, 1), Due.LACK);
                Due.due(what + " change", x.change(tray, sort, 0, 1), Due.LACK);
                Due.due(what + " copy", x.copy(tray, sort, 0, tray, 0), Due.LACK);
                Due.due(what + " step", x.step(tray, sort, 0), sort == Due.LIT ? Due.NONE : Due.LACK);
            }
            Due.due("day over tray " + tray, x.day(tray), Due.LACK);
            Due.due("nothing told", x.told(), 0);
        }
    }

    private static void plotsLackFurrowsAtFirst() {
        Due.sentence(Due.TERMS, "at first they are of SEEDS and lack them.");
        for (int plot = 0; plot < 2; plot++) {
            TrayBench x = new TrayBench();
            x.lay(0, Due.SEEDS, 1);
            Due.due("furrows", x.furrows(plot), Due.LACK);
            Due.due("lift", x.lift(plot, 0), Due.LACK);
            Due.due("get", x.get(plot, 0, 0), Due.LACK);
            Due.due("set", x.set(plot, 0, 0, 1), Due.LACK);
            Due.due("sow, not NONE, since the plot is of SEEDS", x.sow(plot, 0, 0, 0, 0), Due.LACK);
            Due.due("nothing told", x.told(), 0);
        }
    }

    private static void lackOfRowFurrowsAndFurrow() {
        Due.sentence(Due.TERMS, "1 LACK: a row, a plot's furrows or a furrow isn't there.");
        Due.refused("a row", Sample::bench, x -> x.length(2, Due.SEEDS), 1);
        Due.refused("a plot's furrows", TrayBench::new, x -> x.furrows(0), 1);
        Due.refused("a furrow", Sample::bench, x -> x.lift(0, 1), 1);
    }

    private static void placeOfFurrowAndCell() {
        Due.sentence(Due.TERMS, "2 PLACE: there is no such furrow, or cell.");
        Due.refused("a cell", Sample::bench, x -> x.read(0, Due.SEEDS, 3), 2);
        Due.refused("a furrow", Sample::bench, x -> x.lift(0, 3), 2);
        Due.refused("a furrow's cell", Sample::bench, x -> x.get(0, 0, 2), 2);
    }

    private static void sizeBelowZero() {
        Due.sentence(Due.TERMS, "3 SIZE: below 0.");
        Due.refused("lay -1", Sample::bench, x -> x.lay(0, Due.SEEDS, -1), 3);
        Due.refused("plot -1", Sample::bench, x -> x.plot(0, Due.SEEDS, -1, 1), 3);
        Due.due("lay 0", new TrayBench().lay(0, Due.SEEDS, 0), 0);
        Due.due("plot 0", new TrayBench().plot(0, Due.SEEDS, 0, 0), 0);
    }

    private static void greatAbove64() {
        Due.sentence(Due.TERMS, "4 GREAT: above 64.");
        Due.refused("lay 65", Sample::bench, x -> x.lay(0, Due.SEEDS, 65), 4);
        Due.refused("plot 65", Sample::bench, x -> x.plot(0, Due.SEEDS, 65, 1), 4);
        Due.due("lay 64", new TrayBench().lay(0, Due.SEEDS, 64), 0);
        Due.due("plot 64", new TrayBench().plot(0, Due.SEEDS, 64, 64), 0);
    }

    private static void firstNamed(String what, ToIntFunction<TrayBench> call, int fault) {
        Due.refused(what, Sample::bench, call, fault);
    }

    private static void firstNamedOfSizes() {
        Due.sentence(Due.TERMS, "or the fault that its words name first of those that are so; then nothing has been done");
        firstNamed("plot 65, -1", x -> x.plot(0, Due.DAYS, 65, -1), Due.GREAT);
        firstNamed("plot -1, 65", x -> x.plot(0, Due.DAYS, -1, 65), Due.GREAT);
        firstNamed("plot -1, -1", x -> x.plot(0, Due.DAYS, -1, -1), Due.SIZE);
    }

    private static void firstNamedOfCells() {
        Due.sentence(Due.TERMS, "or the fault that its words name first of those that are so; then nothing has been done");
        int[] places = {-1, 3, Due.LEAST, Due.MOST};
        for (int i : places) {
            firstNamed("read " + i, x -> x.read(2, Due.SEEDS, i), Due.LACK);
            firstNamed("write " + i, x -> x.write(2, Due.SEEDS, i, 1), Due.LACK);
            firstNamed("change " + i, x -> x.change(2, Due.SEEDS, i, 1), Due.LACK);
            firstNamed("step " + i, x -> x.step(2, Due.SEEDS, i), Due.LACK);
            firstNamed("copy, the other lacked", x -> x.copy(0, Due.SEEDS, i, 2, i), Due.LACK);
            firstNamed("copy, its own lacked, the other's place " + i, x -> x.copy(2, Due.SEEDS, i, 0, i), Due.PLACE);
            firstNamed("copy, its own lacked", x -> x.copy(2, Due.SEEDS, i, 0, 0), Due.LACK);
        }
    }

    private static void firstNamedOfFurrows() {
        Due.sentence(Due.TERMS, "or the fault that its words name first of those that are so; then nothing has been done");
        firstNamed("lift 3", x -> x.lift(0, 3), Due.PLACE);
        firstNamed("get 3, 2", x -> x.get(0, 3, 2), Due.PLACE);
        firstNamed("get 1, 2", x -> x.get(0, 1, 2), Due.LACK);
        firstNamed("set 1, 2", x -> x.set(0, 1, 2, 4), Due.LACK);
        firstNamed("sow 1, 2, from a lacked row", x -> x.sow(0, 1, 2, 2, 0), Due.LACK);
        firstNamed("sow 0, 2, from a lacked row", x -> x.sow(0, 0, 2, 2, 0), Due.PLACE);
        firstNamed("sow 0, 1, from a lacked row", x -> x.sow(0, 0, 1, 2, -1), Due.LACK);
    }

    private static void answersZero() {
        Due.sentence(Due.TERMS, "A call answers 0,");
        TrayBench x = Sample.bench();
        Due.due("lay", x.lay(2, 0, 1), 0);
        Due.due("length", x.length(2, 0), 0);
        Due.due("write", x.write(2, 0, 0, 7), 0);
        Due.due("read", x.read(2, 0, 0), 0);
        Due.due("change", x.change(2, 0, 0, 7), 0);
        Due.due("step", x.step(2, 0, 0), 0);
        Due.due("copy", x.copy(2, 0, 0, 0, 2), 0);
        Due.due("take", x.take(2, 0), 0);
        Due.due("day", x.day(0), 0);
        Due.due("plot", x.plot(1, 1, 2, 2), 0);
        Due.due("furrows", x.furrows(1), 0);
        Due.due("set", x.set(1, 0, 0, 7), 0);
        Due.due("get", x.get(1, 0, 0), 0);
        Due.due("sow", x.sow(1, 0, 0, 0, 2), 0);
        Due.due("lift", x.lift(1, 0), 0);
    }

    private static void toldAcrossRefusedCalls() {
        Due.sentence(Due.TERMS, "What a call TELLS is told() until a call tells something else.");
        TrayBench x = Sample.bench();
        int[] answers = {
            x.take(2, 0), x.length(2, 0), x.read(2, 0, 0), x.read(0, 0, 3), x.read(1, 0, 0), x.day(2),
            x.furrows(2), x.lift(0, 1), x.lift(0, 3), x.get(0, 0, 2), x.get(0, 1, 0), x.get(0, 3, 0),
            x.sow(0, 0, 0, 2, 0), x.sow(0, 0, 0, 0, 3), x.sow(0, 0, 2, 0, 0), x.sow(1, 0, 0, 0, 0),
            x.take(4, 0), x.length(0, 5), x.read(-1, 0, 0), x.day(4), x.lift(2, 0), x.get(-1, 0, 0),
            x.lay(0, 0, 65), x.lay(0, 0, -1), x.write(0, 0, 3, 1), x.change(2, 0, 0, 1), x.step(0, 3, 0),
            x.copy(0, 0, 0, 0, 3), x.plot(0, 0, 65, 1), x.plot(0, 0, 1, -1), x.set(0, 1, 0, 9)};
        for (int n = 0; n < answers.length; n++) {
            Due.due("refused call " + n, answers[n] == 0 ? 0 : 1, 1);
        }
        Due.due("told()", x.told(), Sample.TOLD);
        TrayBench y = new TrayBench();
        Due.due("furrows of a plot that lacks them", y.furrows(0), Due.LACK);
        Due.due("told() of a new object", y.told(), 0);
    }

    private static void toldAcrossCallsThatTellNothing() {
        Due.sentence(Due.TERMS, "What a call TELLS is told() until a call tells something else.");
        TrayBench x = Sample.bench();
        int[] answers = {
            x.lay(2, 0, 4), x.write(2, 0, 3, 8), x.change(2, 0, 3, 1), x.step(2, 0, 3), x.copy(0, 0, 0, 2, 3),
            x.plot(1, 4, 2, 2), x.set(1, 1, 1, 6), x.set(0, 0, 0, 5)};
        for (int answer : answers) {
            Due.due("a call that tells nothing", answer, 0);
        }
        Due.due("where(0)", x.where(0), 1);
        Due.due("told()", x.told(), Sample.TOLD);
        Due.due("told() again", x.told(), Sample.TOLD);
    }

    private static void toldUntilSomethingElse() {
        Due.sentence(Due.TERMS, "What a call TELLS is told() until a call tells something else.");
        TrayBench x = Sample.bench();
        Due.tells("length", x, x.length(0, 0), 3);
        Due.tells("read", x, x.read(0, 0, 1), 6);
        Due.tells("take", x, x.take(1, 0), 0);
        Due.tells("furrows", x, x.furrows(0), 3);
        Due.tells("get", x, x.get(0, 2, 1), 22);
        Due.tells("sow", x, x.sow(0, 2, 1, 0, 2), 22 + Sample.TOLD);
        Due.tells("lift", x, x.lift(0, 2), 2);
        Due.tells("day", x, x.day(1), 0);
    }
}
