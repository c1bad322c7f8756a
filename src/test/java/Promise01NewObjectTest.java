/** Promise 1: a new object. */
public final class Promise01NewObjectTest {
    public static void main(String[] args) {
        nothingWasTold();
        noneIsMinusOne();
        objectsShareNothing();
        Due.end();
    }

    private static void nothingWasTold() {
        Due.sentence(1, "Nothing was told: 0.");
        Due.due("told()", new TrayBench().told(), 0);
        TrayBench x = new TrayBench();
        x.where(0);
        x.where(1);
        x.day(0);
        x.lay(0, 0, 9);
        Due.due("told() behind calls that tell nothing", x.told(), 0);
    }

    private static void noneIsMinusOne() {
        Due.sentence(Due.TERMS, "There is none.");
        Due.due("NONE", TrayBench.NONE, -1);
    }

    private static void objectsShareNothing() {
        Due.sentence(1, "Nothing was told: 0.");
        TrayBench x = new TrayBench();
        TrayBench y = Sample.bench();
        Due.due("told() of the other one", y.told(), Sample.TOLD);
        Due.same("an object made ahead of another", x, new TrayBench());
        Due.same("an object made behind another", new TrayBench(), new TrayBench());
        Due.due("a new object's row", new TrayBench().length(0, Due.SEEDS), Due.LACK);
    }
}
