import java.util.Arrays;

/** The document once more, with the library's floats and arrays of each sort's own type. */
final class Model {
    private final Object[][] trays = new Object[4][5];
    private final Object[][] plots = new Object[2][];
    private final int[] plotSort = {1, 1};
    private int told = 0;
    private int[] end = {-1, -1};

    /** Calls method number m of the face, in the document's order. */
    int call(int m, int[] a) {
        switch (m) {
            case 0: return lay(a[0], a[1], a[2]);
            case 1: return take(a[0], a[1]);
            case 2: return length(a[0], a[1]);
            case 3: return read(a[0], a[1], a[2]);
            case 4: return write(a[0], a[1], a[2], a[3]);
            case 5: return change(a[0], a[1], a[2], a[3]);
            case 6: return step(a[0], a[1], a[2]);
            case 7: return copy(a[0], a[1], a[2], a[3], a[4]);
            case 8: return day(a[0]);
            case 9: return a[0] == 0 || a[0] == 1 ? end[a[0]] : -1;
            case 10: return plot(a[0], a[1], a[2], a[3]);
            case 11: return furrows(a[0]);
            case 12: return lift(a[0], a[1]);
            case 13: return get(a[0], a[1], a[2]);
            case 14: return set(a[0], a[1], a[2], a[3]);
            case 15: return sow(a[0], a[1], a[2], a[3], a[4]);
            default: return told;
        }
    }

    static int call(TrayBench x, int m, int[] a) {
        switch (m) {
            case 0: return x.lay(a[0], a[1], a[2]);
            case 1: return x.take(a[0], a[1]);
            case 2: return x.length(a[0], a[1]);
            case 3: return x.read(a[0], a[1], a[2]);
            case 4: return x.write(a[0], a[1], a[2], a[3]);
            case 5: return x.change(a[0], a[1], a[2], a[3]);
            case 6: return x.step(a[0], a[1], a[2]);
            case 7: return x.copy(a[0], a[1], a[2], a[3], a[4]);
            case 8: return x.day(a[0]);
            case 9: return x.where(a[0]);
            case 10: return x.plot(a[0], a[1], a[2], a[3]);
            case 11: return x.furrows(a[0]);
            case 12: return x.lift(a[0], a[1]);
            case 13: return x.get(a[0], a[1], a[2]);
            case 14: return x.set(a[0], a[1], a[2], a[3]);
            case 15: return x.sow(a[0], a[1], a[2], a[3], a[4]);
            default: return x.told();
        }
    }

    private static Object fresh(int sort, int n) {
        switch (sort) {
            case 0: return new char[n];
            case 1: return new short[n];
            case 2: return new float[n];
            case 3: return new boolean[n];
            default: return new byte[n];
        }
    }

    private static int size(Object row) {
        return java.lang.reflect.Array.getLength(row);
    }

    private static int at(Object row, int i) {
        if (row instanceof char[] marks) {
            return marks[i];
        } else if (row instanceof short[] seeds) {
            return seeds[i];
        } else if (row instanceof float[] water) {
            return Float.floatToRawIntBits(water[i]);
        } else if (row instanceof boolean[] lit) {
            return lit[i] ? 1 : 0;
        }
        return ((byte[]) row)[i];
    }

    private static void become(Object row, int i, int v) {
        if (row instanceof char[] marks) {
            marks[i] = (char) v;
        } else if (row instanceof short[] seeds) {
            seeds[i] = (short) v;
        } else if (row instanceof float[] water) {
            water[i] = held(v / 4f);
        } else if (row instanceof boolean[] lit) {
            lit[i] = v != 0;
        } else {
            ((byte[]) row)[i] = (byte) v;
        }
    }

    private static float held(float water) {
        return Math.max(-1000000f, Math.min(1000000f, water));
    }

    private static boolean noTray(int tray, int sort) {
        return tray < 0 || tray > 3 || sort < 0 || sort > 4;
    }

    private static int fault(Object row, int i) {
        return row == null ? 1 : i < 0 || i >= size(row) ? 2 : 0;
    }

    private int furrowFault(int plot, int k) {
        int fault = fault(plots[plot], k);
        return fault != 0 ? fault : plots[plot][k] == null ? 1 : 0;
    }

    private int lay(int tray, int sort, int n) {
        if (noTray(tray, sort)) {
            return -1;
        }
        if (n > 64 || n < 0) {
            return n > 64 ? 4 : 3;
        }
        trays[tray][sort] = fresh(sort, n);
        return 0;
    }

    private int take(int tray, int sort) {
        int answer = length(tray, sort);
        if (answer == 0) {
            trays[tray][sort] = null;
        }
        return answer;
    }

    private int length(int tray, int sort) {
        if (noTray(tray, sort)) {
            return -1;
        }
        if (trays[tray][sort] == null) {
            return 1;
        }
        told = size(trays[tray][sort]);
        return 0;
    }

    private int read(int tray, int sort, int i) {
        int answer = noTray(tray, sort) ? -1 : fault(trays[tray][sort], i);
        if (answer == 0) {
            told = at(trays[tray][sort], i);
        }
        return answer;
    }

    private int write(int tray, int sort, int i, int v) {
        int answer = noTray(tray, sort) ? -1 : fault(trays[tray][sort], i);
        if (answer == 0) {
            become(trays[tray][sort], i, v);
        }
        return answer;
    }

    private int change(int tray, int sort, int i, int v) {
        int answer = noTray(tray, sort) ? -1 : fault(trays[tray][sort], i);
        if (answer != 0) {
            return answer;
        }
        Object row = trays[tray][sort];
        if (row instanceof char[] marks) {
            marks[i] += v;
        } else if (row instanceof short[] seeds) {
            seeds[i] -= v;
        } else if (row instanceof float[] water) {
            water[i] = held(water[i] * (v / 4f));
        } else if (row instanceof boolean[] lit) {
            lit[i] ^= v != 0;
        } else {
            ((byte[]) row)[i] <<= v;
        }
        return 0;
    }

    private int step(int tray, int sort, int i) {
        int answer = noTray(tray, sort) || sort == 3 ? -1 : fault(trays[tray][sort], i);
        if (answer != 0) {
            return answer;
        }
        Object row = trays[tray][sort];
        if (row instanceof float[] water) {
            water[i] = held(water[i] + 1f);
        } else {
            become(row, i, at(row, i) + 1);
        }
        return 0;
    }

    private int copy(int tray, int sort, int i, int from, int j) {
        if (noTray(tray, sort) || noTray(from, sort)) {
            return -1;
        }
        int answer = fault(trays[from][sort], j);
        if (answer == 0) {
            answer = fault(trays[tray][sort], i);
        }
        if (answer == 0) {
            System.arraycopy(trays[from][sort], j, trays[tray][sort], i, 1);
        }
        return answer;
    }

    private int day(int tray) {
        if (noTray(tray, 0)) {
            return -1;
        }
        if (trays[tray][1] == null) {
            end = new int[] {0, 1};
            return 1;
        }
        told = 0;
        end = new int[] {-1, -1};
        short[] seeds = (short[]) trays[tray][1];
        for (int i = 0; i < seeds.length; i++) {
            int sort = firstMissing(tray, i, 3, 4);
            if (sort < 0 && !((boolean[]) trays[tray][3])[i]) {
                ((byte[]) trays[tray][4])[i] = 0;
                continue;
            }
            if (sort < 0) {
                ((byte[]) trays[tray][4])[i]++;
                sort = firstMissing(tray, i, 2);
            }
            boolean wet = false;
            if (sort < 0) {
                float[] water = (float[]) trays[tray][2];
                water[i] = held(water[i] - 1f);
                wet = water[i] >= 0f;
            }
            if (wet) {
                int quarter = (int) Math.floor(seeds[i] / 4.0);
                seeds[i] -= quarter;
                told += quarter;
                sort = firstMissing(tray, i, 0);
                if (sort < 0) {
                    ((char[]) trays[tray][0])[i] += quarter;
                }
            }
            if (sort >= 0) {
                end = new int[] {i, sort};
                return fault(trays[tray][sort], i);
            }
        }
        return 0;
    }

    private int firstMissing(int tray, int i, int... sorts) {
        for (int sort : sorts) {
            if (fault(trays[tray][sort], i) != 0) {
                return sort;
            }
        }
        return -1;
    }

    private int plot(int plot, int sort, int furrows, int cells) {
        if (plot < 0 || plot > 1 || sort < 0 || sort > 4) {
            return -1;
        }
        if (Math.max(furrows, cells) > 64) {
            return 4;
        }
        if (Math.min(furrows, cells) < 0) {
            return 3;
        }
        plotSort[plot] = sort;
        plots[plot] = new Object[furrows];
        Arrays.setAll(plots[plot], k -> fresh(sort, cells));
        return 0;
    }

    private int furrows(int plot) {
        if (plot < 0 || plot > 1) {
            return -1;
        }
        if (plots[plot] == null) {
            return 1;
        }
        told = plots[plot].length;
        return 0;
    }

    private int lift(int plot, int k) {
        int answer = plot < 0 || plot > 1 ? -1 : furrowFault(plot, k);
        if (answer == 0) {
            told = size(plots[plot][k]);
            plots[plot][k] = null;
        }
        return answer;
    }

    private int cellFault(int plot, int k, int i) {
        int answer = plot < 0 || plot > 1 ? -1 : furrowFault(plot, k);
        return answer != 0 ? answer : fault(plots[plot][k], i);
    }

    private int get(int plot, int k, int i) {
        int answer = cellFault(plot, k, i);
        if (answer == 0) {
            told = at(plots[plot][k], i);
        }
        return answer;
    }

    private int set(int plot, int k, int i, int v) {
        int answer = cellFault(plot, k, i);
        if (answer == 0) {
            become(plots[plot][k], i, v);
        }
        return answer;
    }

    private int sow(int plot, int k, int i, int tray, int j) {
        if (plot < 0 || plot > 1 || noTray(tray, 1) || plotSort[plot] != 1) {
            return -1;
        }
        int answer = cellFault(plot, k, i);
        if (answer == 0) {
            answer = fault(trays[tray][1], j);
        }
        if (answer == 0) {
            short[] furrow = (short[]) plots[plot][k];
            short[] seeds = (short[]) trays[tray][1];
            furrow[i] += seeds[j];
            seeds[j] = 0;
            told = furrow[i];
        }
        return answer;
    }
}
