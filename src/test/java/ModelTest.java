import java.util.Arrays;
import java.util.Random;

/** All promises: long runs of mixed calls answer as the model of the document does. */
public final class ModelTest {
    private static final int TOLD = 16;
    private static final int[] NUMBERS = {0, 1, -1, 2, 3, -3, 4, -4, 5, 7, 31, 32, 63, 64, 65, 127, 128, -128, 255,
        32767, 32768, -32768, 65535, 65536, 3999999, 4000000, 4000001, -4000001, 8000000, 16777217, 16777219,
        Integer.MAX_VALUE, Integer.MIN_VALUE};

    private final Random random;
    /** Small sizes let places be hit, great ones let the edges be seen. */
    private final int reach;

    private ModelTest(long seed, int reach) {
        this.random = new Random(seed);
        this.reach = reach;
    }

    public static void main(String[] args) {
        for (int seed = 0; seed < 6000 && Due.wrong() < 20; seed++) {
            new ModelTest(seed, seed % 3 == 0 ? 64 : 2 + seed % 3 * 2).run(seed);
        }
        for (int seed = 0; seed < 300 && Due.wrong() < 20; seed++) {
            new ModelTest(seed, 3).runWater(seed);
        }
        for (int seed = 0; seed < 3000 && Due.wrong() < 20; seed++) {
            new ModelTest(seed, 4).runDays(seed);
        }
        Due.end();
    }

    private void run(int seed) {
        TrayBench x = new TrayBench();
        Model model = new Model();
        int calls = 0;
        if (seed % 4 != 0) {
            for (int sort = 0; sort < 5; sort++) {
                int[] a = {0, sort, size()};
                calls += compare(seed, x, model, 0, a);
            }
        }
        while (calls + 4 <= 512) {
            int m = random.nextInt(3) == 0 ? 4 + random.nextInt(5) : random.nextInt(17);
            calls += compare(seed, x, model, m, arguments(m));
        }
    }

    /** Only one cell of WATER, worked with again and again. */
    private void runWater(int seed) {
        TrayBench x = new TrayBench();
        Model model = new Model();
        int[] one = {0, 2, 1};
        int[] cell = {0, 2, 0};
        Due.due("lay", x.lay(0, 2, 1), model.call(0, one));
        Due.due("write", x.write(0, 2, 0, 4), model.call(4, new int[] {0, 2, 0, 4}));
        // small factors alone come down to the smallest floats
        boolean small = seed % 2 == 0;
        for (int n = 0; n < 160; n++) {
            int m = small || random.nextInt(20) != 0 ? 5 : random.nextBoolean() ? 6 : 4;
            int v = small ? 1 + random.nextInt(3) : random.nextInt(3) == 0 ? random.nextInt() : random.nextInt(9) - 4;
            int[] a = {0, 2, 0, random.nextBoolean() ? v : -v};
            Due.due("seed " + seed + ": method " + m + " " + a[3], Model.call(x, m, a), model.call(m, a));
            Due.due("read", x.read(0, 2, 0), model.call(3, cell));
            Due.due("seed " + seed + ": method " + m + " " + a[3] + ", then", x.told(), model.call(TOLD, a));
        }
    }

    /** A tray with nearly all its rows, some days, and a look at every cell. */
    private void runDays(int seed) {
        TrayBench x = new TrayBench();
        Model model = new Model();
        for (int sort = 0; sort < 5; sort++) {
            if (random.nextInt(12) != 0) {
                int n = random.nextInt(6) == 0 ? random.nextInt(reach) : reach;
                compare(seed, x, model, 0, new int[] {0, sort, n});
            }
            for (int i = 0; i < reach; i++) {
                int v = sort == 2 ? random.nextInt(20) : sort == 3 ? random.nextInt(5) : number();
                compare(seed, x, model, 4, new int[] {0, sort, i, v});
            }
        }
        for (int days = 0; days < 3; days++) {
            compare(seed, x, model, 8, new int[] {0});
        }
        for (int cell = 0; cell < 5 * reach; cell++) {
            compare(seed, x, model, 3, new int[] {0, cell / reach, cell % reach});
        }
    }

    private int compare(int seed, TrayBench x, Model model, int m, int[] a) {
        String call = "seed " + seed + ": method " + m + " " + Arrays.toString(a);
        Due.due(call, Model.call(x, m, a), model.call(m, a));
        Due.due(call + ", then told()", x.told(), model.call(TOLD, a));
        int[] zero = {0};
        int[] one = {1};
        Due.due(call + ", then where(0)", x.where(0), model.call(9, zero));
        Due.due(call + ", then where(1)", x.where(1), model.call(9, one));
        return 4;
    }

    private int[] arguments(int m) {
        switch (m) {
            case 0: return new int[] {tray(), sort(), size()};
            case 1:
            case 2: return new int[] {tray(), sort()};
            case 3:
            case 6: return new int[] {tray(), sort(), place()};
            case 4:
            case 5: return new int[] {tray(), sort(), place(), number()};
            case 7: return new int[] {tray(), sort(), place(), tray(), place()};
            case 8: return new int[] {tray()};
            case 9: return new int[] {random.nextInt(5) - 1};
            case 10: return new int[] {plot(), random.nextBoolean() ? 1 : sort(), size(), size()};
            case 11: return new int[] {plot()};
            case 12: return new int[] {plot(), place()};
            case 13: return new int[] {plot(), place(), place()};
            case 14: return new int[] {plot(), place(), place(), number()};
            case 15: return new int[] {plot(), place(), place(), tray(), place()};
            default: return new int[0];
        }
    }

    private int tray() {
        return rare() ? odd() : random.nextInt(3) == 0 ? random.nextInt(4) : 0;
    }

    private int sort() {
        return rare() ? odd() : random.nextInt(5);
    }

    private int plot() {
        return rare() ? odd() : random.nextInt(2);
    }

    private int size() {
        return rare() ? odd() : random.nextInt(4) == 0 ? random.nextInt(reach + 1) : reach;
    }

    private int place() {
        return rare() ? odd() : random.nextInt(reach);
    }

    private int number() {
        int kind = random.nextInt(3);
        return kind == 0 ? random.nextInt() : kind == 1 ? NUMBERS[random.nextInt(NUMBERS.length)]
            : random.nextInt(41) - 8;
    }

    private boolean rare() {
        return random.nextInt(40) == 0;
    }

    private int odd() {
        return NUMBERS[random.nextInt(NUMBERS.length)];
    }
}
