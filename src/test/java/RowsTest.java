/** Promises 1 to 5, 9 and 18: rows come, go, are read and copied; what is told stays told. */
public final class RowsTest {
    public static void main(String[] args) {
        newObject();
        lay();
        take();
        length();
        read();
        copy();
        copyFaults();
        told();
        Due.end();
    }

    private static void newObject() {
        TrayBench x = new TrayBench();
        Due.due("NONE", TrayBench.NONE, -1);
        Due.due("new: told", x.told(), 0);
        for (int tray = 0; tray < 4; tray++) {
            for (int sort = 0; sort < 5; sort++) {
                Due.due("new: length " + tray + " " + sort, x.length(tray, sort), Due.LACK);
            }
        }
        for (int plot = 0; plot < 2; plot++) {
            Due.due("new: furrows " + plot, x.furrows(plot), Due.LACK);
            Due.due("new: a plot is of SEEDS", x.sow(plot, 0, 0, 0, 0), Due.LACK);
        }
        Due.due("new: where 0", x.where(0), Due.NONE);
        Due.due("new: where 1", x.where(1), Due.NONE);
        Due.due("new: told after faults", x.told(), 0);
        TrayBench y = new TrayBench();
        y.lay(0, 0, 3);
        Due.due("objects share nothing", x.length(0, 0), Due.LACK);
    }

    private static void lay() {
        TrayBench x = new TrayBench();
        for (int sort = 0; sort < 5; sort++) {
            Due.due("lay 65", x.lay(3, sort, 65), Due.GREAT);
            Due.due("lay most", x.lay(3, sort, Integer.MAX_VALUE), Due.GREAT);
            Due.due("lay -1", x.lay(3, sort, -1), Due.SIZE);
            Due.due("lay least", x.lay(3, sort, Integer.MIN_VALUE), Due.SIZE);
            Due.due("still lacked", x.length(3, sort), Due.LACK);
            Due.due("lay 64", x.lay(3, sort, 64), 0);
            Due.tells("64 cells", x, x.length(3, sort), 64);
            for (int i = 0; i < 64; i += 21) {
                Due.cell("new cells", x, 3, sort, i, 0);
                x.write(3, sort, i, 1);
            }
            Due.due("a refused lay", x.lay(3, sort, 65), Due.GREAT);
            Due.due("a refused lay", x.lay(3, sort, -1), Due.SIZE);
            Due.tells("a refused lay changes nothing", x, x.length(3, sort), 64);
            Due.tells("a refused lay changes nothing", x, x.read(3, sort, 63), sort == 2 ? 0x3e800000 : 1);
            Due.due("lay again", x.lay(3, sort, 43), 0);
            Due.due("lay tells nothing", x.told(), sort == 2 ? 0x3e800000 : 1);
            Due.tells("43 cells", x, x.length(3, sort), 43);
            Due.cell("laid again", x, 3, sort, 42, 0);
            Due.due("no cell 43", x.read(3, sort, 43), Due.PLACE);
            x.write(3, sort, 0, 1);
            Due.due("lay longer", x.lay(3, sort, 64), 0);
            Due.cell("laid longer", x, 3, sort, 0, 0);
            Due.cell("laid longer", x, 3, sort, 63, 0);
            Due.due("lay 0", x.lay(3, sort, 0), 0);
            Due.tells("no cells", x, x.length(3, sort), 0);
            Due.due("cell 0 of none", x.read(3, sort, 0), Due.PLACE);
        }
        noneFor("lay", x.lay(-1, 0, 1), x.lay(4, 0, 1), x.lay(0, -1, 1), x.lay(0, 5, 1));
        noneFor("lay ahead of faults", x.lay(-1, 0, 65), x.lay(4, 0, -1), x.lay(0, -1, 65), x.lay(0, 5, -1));
        Due.due("other trays stay", x.length(2, 4), Due.LACK);
    }

    private static void take() {
        TrayBench x = new TrayBench();
        Due.due("take of nothing", x.take(1, 2), Due.LACK);
        x.lay(1, 2, 5);
        x.lay(1, 3, 6);
        x.lay(2, 2, 7);
        x.write(1, 2, 4, 9);
        Due.tells("take", x, x.take(1, 2), 5);
        Due.due("taken", x.length(1, 2), Due.LACK);
        Due.due("taken", x.read(1, 2, 4), Due.LACK);
        Due.due("taken twice", x.take(1, 2), Due.LACK);
        Due.due("told stays", x.told(), 5);
        Due.tells("another sort stays", x, x.length(1, 3), 6);
        Due.tells("another tray stays", x, x.length(2, 2), 7);
        x.lay(1, 2, 5);
        Due.cell("laid after take", x, 1, 2, 4, 0);
        x.lay(1, 2, 0);
        Due.tells("take of no cells", x, x.take(1, 2), 0);
        Due.due("and it is gone", x.take(1, 2), Due.LACK);
        noneFor("take", x.take(-1, 0), x.take(4, 0), x.take(0, -1), x.take(0, 5));
    }

    private static void length() {
        TrayBench x = new TrayBench();
        Due.due("length of nothing", x.length(0, 0), Due.LACK);
        x.lay(0, 0, 17);
        Due.tells("length", x, x.length(0, 0), 17);
        Due.tells("length changes nothing", x, x.length(0, 0), 17);
        noneFor("length", x.length(-1, 0), x.length(4, 0), x.length(0, -1), x.length(0, 5));
        Due.due("told stays", x.told(), 17);
    }

    private static void read() {
        TrayBench x = new TrayBench();
        for (int sort = 0; sort < 5; sort++) {
            Due.due("read of nothing", x.read(2, sort, -1), Due.LACK);
            x.lay(2, sort, 3);
            x.write(2, sort, 0, 1);
            x.write(2, sort, 2, -6);
            Due.due("before the first", x.read(2, sort, -1), Due.PLACE);
            Due.due("behind the last", x.read(2, sort, 3), Due.PLACE);
            Due.due("far behind", x.read(2, sort, Integer.MAX_VALUE), Due.PLACE);
            Due.due("far before", x.read(2, sort, Integer.MIN_VALUE), Due.PLACE);
        }
        Due.cell("MARKS", x, 2, Due.MARKS, 0, 1);
        Due.cell("MARKS", x, 2, Due.MARKS, 2, 65530);
        Due.cell("SEEDS", x, 2, Due.SEEDS, 2, -6);
        Due.cell("WATER", x, 2, Due.WATER, 0, 0x3e800000);
        Due.cell("WATER", x, 2, Due.WATER, 2, 0xbfc00000);
        Due.cell("LIT", x, 2, Due.LIT, 1, 0);
        Due.cell("LIT", x, 2, Due.LIT, 2, 1);
        Due.cell("DAYS", x, 2, Due.DAYS, 2, -6);
        noneFor("read", x.read(-1, 0, 0), x.read(4, 0, 0), x.read(0, -1, 0), x.read(0, 5, 0));
        Due.due("told stays", x.told(), -6);
    }

    private static void copy() {
        TrayBench x = new TrayBench();
        int[] bits = {65529, -7, 0xbfe00000, 1, -7};
        for (int sort = 0; sort < 5; sort++) {
            x.lay(0, sort, 64);
            x.lay(3, sort, 2);
            x.write(3, sort, 1, -7);
            int before = x.told();
            Due.due("copy", x.copy(0, sort, 63, 3, 1), 0);
            Due.due("copy tells nothing", x.told(), before);
            Due.cell("copied", x, 0, sort, 63, bits[sort]);
            Due.cell("the other one stays", x, 3, sort, 1, bits[sort]);
            Due.cell("no other cell", x, 0, sort, 62, 0);
            Due.due("copy in its own row", x.copy(0, sort, 0, 0, 63), 0);
            Due.cell("copied in its own row", x, 0, sort, 0, bits[sort]);
            x.write(3, sort, 1, 0);
            Due.cell("a copy stands alone", x, 0, sort, 63, bits[sort]);
        }
        x.write(3, Due.WATER, 0, 0);
        x.change(3, Due.WATER, 0, -4);
        x.copy(0, Due.WATER, 5, 3, 0);
        Due.water("the sign of 0 is copied", x, 0, 5, -0.0f);
    }

    private static void copyFaults() {
        TrayBench x = new TrayBench();
        Due.due("both lacked", x.copy(0, 1, -1, 1, -1), Due.LACK);
        x.lay(0, 1, 2);
        Due.due("the other lacked, own place wrong", x.copy(0, 1, 2, 1, 0), Due.LACK);
        x.take(0, 1);
        x.lay(1, 1, 2);
        Due.due("the other's place, own lacked", x.copy(0, 1, 0, 1, 2), Due.PLACE);
        Due.due("the other's place, own lacked", x.copy(0, 1, 0, 1, -1), Due.PLACE);
        Due.due("own lacked", x.copy(0, 1, -1, 1, 1), Due.LACK);
        x.lay(0, 1, 3);
        Due.due("own place", x.copy(0, 1, 3, 1, 1), Due.PLACE);
        Due.due("own place", x.copy(0, 1, -1, 1, 1), Due.PLACE);
        Due.due("the other's place, within its own length", x.copy(0, 1, 2, 1, 2), Due.PLACE);
        Due.due("fine", x.copy(0, 1, 2, 1, 1), 0);
        noneFor("copy", x.copy(-1, 1, 0, 1, 0), x.copy(4, 1, 0, 1, 0), x.copy(0, -1, 0, 1, 0), x.copy(0, 5, 0, 1, 0));
        noneFor("copy", x.copy(0, 1, 0, -1, 0), x.copy(0, 1, 0, 4, 0), x.copy(4, 2, 0, 1, 0), x.copy(0, 2, 0, 4, 0));
        noneFor("copy ahead of PLACE", x.copy(4, 1, 0, 1, 9), x.copy(0, 1, 9, 4, 0), x.copy(0, 1, 9, -1, 0),
                x.copy(-1, 1, 0, 1, -1));
    }

    private static void told() {
        TrayBench x = new TrayBench();
        x.lay(0, 1, 9);
        x.length(0, 1);
        x.write(0, 1, 8, 44);
        x.change(0, 1, 8, 2);
        x.step(0, 1, 8);
        x.copy(0, 1, 1, 0, 8);
        x.read(0, 1, 9);
        x.read(0, 5, 8);
        x.where(0);
        x.plot(0, 1, 3, 4);
        x.set(0, 0, 0, 5);
        Due.due("none of these tells", x.told(), 9);
        Due.due("told tells nothing", x.told(), 9);
        Due.tells("read tells", x, x.read(0, 1, 8), 43);
        Due.tells("furrows tells", x, x.furrows(0), 3);
        Due.tells("get tells", x, x.get(0, 0, 0), 5);
        Due.tells("lift tells", x, x.lift(0, 2), 4);
        Due.tells("sow tells", x, x.sow(0, 0, 0, 0, 8), 48);
        Due.tells("take tells", x, x.take(0, 1), 9);
    }

    private static void noneFor(String what, int... answers) {
        for (int answer : answers) {
            Due.due(what + " of what there isn't", answer, Due.NONE);
        }
    }
}
