/** Promise 18: told. How long a thing is told is in TermsAnswersTest. */
public final class Promise18ToldTest {
    public static void main(String[] args) {
        zeroAtFirst();
        lastOfSeveral();
        greatAndSmallNumbers();
        tellsNothingItself();
        Due.end();
    }

    private static void zeroAtFirst() {
        Due.sentence(18, "What was told last.");
        TrayBench x = new TrayBench();
        Due.due("told()", x.told(), 0);
        Due.due("told() again", x.told(), 0);
    }

    private static void lastOfSeveral() {
        Due.sentence(18, "What was told last.");
        TrayBench x = Sample.bench();
        x.length(0, 0);
        x.read(0, 0, 0);
        x.furrows(0);
        Due.due("the last of three", x.told(), 3);
        x.read(0, 0, 0);
        x.read(0, 0, 7);
        Due.due("the last one, since the other is refused", x.told(), 5);
    }

    private static void greatAndSmallNumbers() {
        Due.sentence(18, "What was told last.");
        TrayBench x = Sample.bench();
        x.write(0, Due.MARKS, 0, 65535);
        x.write(0, Due.SEEDS, 0, -32768);
        x.write(0, Due.WATER, 0, Due.LEAST);
        x.write(0, Due.WATER, 1, Due.MOST);
        Due.cell("MARKS", x, 0, Due.MARKS, 0, 65535);
        Due.cell("SEEDS", x, 0, Due.SEEDS, 0, -32768);
        Due.cell("the least WATER", x, 0, Due.WATER, 0, 0xc9742400);
        Due.cell("the most WATER", x, 0, Due.WATER, 1, 0x49742400);
    }

    private static void tellsNothingItself() {
        Due.sentence(18, "What was told last.");
        TrayBench x = Sample.bench();
        Due.due("told()", x.told(), Sample.TOLD);
        Due.due("told() again", x.told(), Sample.TOLD);
        Due.same("told", x, Sample.bench());
    }
}
