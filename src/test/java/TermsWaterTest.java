/** Terms: WATER is worked out to the nearest float, and held within 1000000. */
public final class TermsWaterTest {
    private static final int MOST_QUARTERS = 4000000;

    public static void main(String[] args) {
        nearestFloat();
        equallyNearGoesToEven();
        equallyNearAmongTheSmallest();
        sumsAreRounded();
        daysAreRounded();
        writtenAboveAndBelow();
        productsAboveAndBelow();
        stepsAboveAndBelow();
        daysBelow();
        furrowsAboveAndBelow();
        Due.end();
    }

    private static TrayBench written(int v) {
        TrayBench x = new TrayBench();
        x.lay(0, Due.WATER, 1);
        x.write(0, Due.WATER, 0, v);
        return x;
    }

    /** The cell became v, and was then so often made a quarter of itself. */
    private static TrayBench quartered(int v, int times) {
        TrayBench x = written(v);
        for (int n = 0; n < times; n++) {
            x.change(0, Due.WATER, 0, 1);
        }
        return x;
    }

    private static void is(String what, TrayBench x, float number) {
        Due.water(what, x, 0, 0, number);
    }

    /** one / 256, times other / 4, is due to be number / 1024. */
    private static void product(int one, int other, float number) {
        TrayBench x = quartered(one, 3);
        Due.due("change", x.change(0, Due.WATER, 0, other), 0);
        is(one + " / 256 times " + other + " / 4", x, number / 1024);
    }

    private static void nearestFloat() {
        Due.sentence(Due.TERMS, "WATER is worked out to the nearest float each time");
        // of 26 bits, a float has 24: the nearest is 1 below, or 1 above
        product(8191, 8191, 67092480f);
        product(8191, 8189, 67076100f);
        product(-8191, 8191, -67092480f);
        product(8191, -8189, -67076100f);
        TrayBench x = written(5);
        float number = 1.25f;
        for (int n = 0; n < 60; n++) {
            x.change(0, Due.WATER, 0, n % 2 == 0 ? 7 : -3);
            number *= n % 2 == 0 ? 1.75f : -0.75f;
            is("rounded " + n + " times", x, number);
        }
    }

    private static void equallyNearGoesToEven() {
        Due.sentence(Due.TERMS, "(of two equally near the one whose last bit is 0)");
        // 4097 * 4097 = 16785409 and 4097 * 4099 = 16793603 are of 25 bits and odd
        product(4097, 4097, 16785408f);
        product(4097, 4099, 16793604f);
        product(-4097, 4097, -16785408f);
        product(4097, -4099, -16793604f);
        // 26 bits with the last two being 10: 8190 * 8191 and 8190 * 8189
        product(8190, 8191, 67084288f);
        product(8190, 8189, 67067912f);
    }

    private static void equallyNearAmongTheSmallest() {
        Due.sentence(Due.TERMS, "(of two equally near the one whose last bit is 0)");
        // the smallest float is 2 to the -149; a quarter of 2 is an even half of it
        int[] v = {4, 2, 1, 3, -3, 6, -6, 5, -2, -1};
        int[] smallest = {2, 1, 0, 2, -2, 3, -3, 2, -1, 0};
        for (int n = 0; n < v.length; n++) {
            TrayBench x = quartered(4, 74);
            x.change(0, Due.WATER, 0, 2);
            is("2 of the smallest float, halved", x, Float.MIN_VALUE);
            x.change(0, Due.WATER, 0, 8);
            is("2 of the smallest float", x, 2 * Float.MIN_VALUE);
            x.change(0, Due.WATER, 0, v[n]);
            is("times " + v[n] + " / 4", x, v[n] == -1 ? -0f : smallest[n] * Float.MIN_VALUE);
        }
    }

    private static void sumsAreRounded() {
        Due.sentence(Due.TERMS, "WATER is worked out to the nearest float each time");
        float last = 1f / (1 << 23);
        stepped(quartered(1, 11), "2 to the -24", 1f);
        stepped(quartered(3, 11), "3 times that", 1f + 2 * last);
        stepped(quartered(5, 11), "5 times that", 1f + 2 * last);
        stepped(quartered(7, 11), "7 times that", 1f + 4 * last);
        stepped(quartered(1, 70), "hardly any", 1f);
        stepped(quartered(-1, 12), "-2 to the -26", 1f);
        stepped(quartered(-2, 12), "-2 to the -25", 1f);
        stepped(quartered(-3, 12), "-3 times 2 to the -26", 1f - last / 2);
    }

    private static void stepped(TrayBench x, String what, float number) {
        Due.due("step", x.step(0, Due.WATER, 0), 0);
        is(what + " and 1", x, number);
    }

    private static void daysAreRounded() {
        Due.sentence(Due.TERMS, "WATER is worked out to the nearest float each time");
        float last = 1f / (1 << 23);
        dayOver(quartered(-1, 11), "-2 to the -24", -1f);
        dayOver(quartered(-3, 11), "-3 times that", -1f - 2 * last);
        dayOver(quartered(2, 12), "2 to the -25", -1f);
        dayOver(quartered(3, 12), "3 times 2 to the -26", -1f + last / 2);
        dayOver(quartered(4, 12), "2 to the -24", -1f + last / 2);
    }

    private static void dayOver(TrayBench x, String what, float number) {
        x.lay(0, Due.SEEDS, 1);
        x.lay(0, Due.DAYS, 1);
        x.lay(0, Due.LIT, 1);
        x.write(0, Due.LIT, 0, 1);
        Due.due("day", x.day(0), 0);
        is(what + " less 1", x, number);
    }

    private static void writtenAboveAndBelow() {
        Due.sentence(Due.TERMS, "and is then 1000000 if it is more, -1000000 if it is less.");
        is("one quarter below the most", written(MOST_QUARTERS - 1), 999999.75f);
        is("the most", written(MOST_QUARTERS), 1000000f);
        is("one quarter above the most", written(MOST_QUARTERS + 1), 1000000f);
        is("far above", written(Due.MOST), 1000000f);
        is("one quarter above the least", written(1 - MOST_QUARTERS), -999999.75f);
        is("the least", written(-MOST_QUARTERS), -1000000f);
        is("one quarter below the least", written(-1 - MOST_QUARTERS), -1000000f);
        is("far below", written(Due.LEAST), -1000000f);
    }

    private static void changed(int from, int v, float number) {
        TrayBench x = written(from);
        Due.due("change", x.change(0, Due.WATER, 0, v), 0);
        is(from + " / 4 times " + v + " / 4", x, number);
    }

    private static void productsAboveAndBelow() {
        Due.sentence(Due.TERMS, "and is then 1000000 if it is more, -1000000 if it is less.");
        changed(4000, 4000, 1000000f);
        changed(4000, 3999, 999750f);
        changed(4000, 4001, 1000000f);
        changed(-4000, 4000, -1000000f);
        changed(-4000, 3999, -999750f);
        changed(-4000, 4001, -1000000f);
        changed(4000, -4001, -1000000f);
        changed(-4000, -4001, 1000000f);
        changed(MOST_QUARTERS, 4, 1000000f);
        changed(MOST_QUARTERS, 5, 1000000f);
        changed(MOST_QUARTERS, -4, -1000000f);
        changed(MOST_QUARTERS, Due.MOST, 1000000f);
        changed(MOST_QUARTERS, Due.LEAST, -1000000f);
        changed(-MOST_QUARTERS, Due.MOST, -1000000f);
        changed(-MOST_QUARTERS, Due.LEAST, 1000000f);
    }

    private static void stepsAboveAndBelow() {
        Due.sentence(Due.TERMS, "and is then 1000000 if it is more, -1000000 if it is less.");
        stepped(written(MOST_QUARTERS - 5), "999998.75", 999999.75f);
        stepped(written(MOST_QUARTERS - 4), "999999", 1000000f);
        stepped(written(MOST_QUARTERS - 3), "999999.25", 1000000f);
        stepped(written(MOST_QUARTERS), "1000000", 1000000f);
        stepped(written(-MOST_QUARTERS), "-1000000", -999999f);
    }

    private static void daysBelow() {
        Due.sentence(Due.TERMS, "and is then 1000000 if it is more, -1000000 if it is less.");
        dayOver(written(5 - MOST_QUARTERS), "-999998.75", -999999.75f);
        dayOver(written(4 - MOST_QUARTERS), "-999999", -1000000f);
        dayOver(written(3 - MOST_QUARTERS), "-999999.25", -1000000f);
        dayOver(written(-MOST_QUARTERS), "-1000000", -1000000f);
    }

    private static void furrowsAboveAndBelow() {
        Due.sentence(Due.TERMS, "and is then 1000000 if it is more, -1000000 if it is less.");
        int[] v = {MOST_QUARTERS, MOST_QUARTERS + 1, Due.MOST, -MOST_QUARTERS, -1 - MOST_QUARTERS, Due.LEAST};
        TrayBench x = new TrayBench();
        x.plot(1, Due.WATER, 1, 1);
        for (int n = 0; n < v.length; n++) {
            Due.due("set", x.set(1, 0, 0, v[n]), 0);
            Due.tells("set " + v[n], x, x.get(1, 0, 0), Due.bits(n < 3 ? 1000000f : -1000000f));
        }
    }
}
