import java.util.ArrayList;
import java.util.List;

/** The document's face, line by line, and the classes that the program is made of. */
final class Face {
    static final String[] METHODS = {
        "public int lay(int tray, int sort, int n);",
        "public int take(int tray, int sort);",
        "public int length(int tray, int sort);",
        "public int read(int tray, int sort, int i);",
        "public int write(int tray, int sort, int i, int v);",
        "public int change(int tray, int sort, int i, int v);",
        "public int step(int tray, int sort, int i);",
        "public int copy(int tray, int sort, int i, int from, int j);",
        "public int day(int tray);",
        "public int where(int what);",
        "public int plot(int plot, int sort, int furrows, int cells);",
        "public int furrows(int plot);",
        "public int lift(int plot, int k);",
        "public int get(int plot, int k, int i);",
        "public int set(int plot, int k, int i, int v);",
        "public int sow(int plot, int k, int i, int tray, int j);",
        "public int told();"};

    private Face() {
    }

    static String[] names() {
        String[] names = new String[METHODS.length];
        for (int m = 0; m < names.length; m++) {
            names[m] = METHODS[m].substring("public int ".length(), METHODS[m].indexOf('('));
        }
        return names;
    }

    static int parameters(int m) {
        return METHODS[m].split("int ", -1).length - 2;
    }

    /** The class and all inside it, however deep. */
    static List<Class<?>> classes() {
        List<Class<?>> classes = new ArrayList<>();
        classes.add(TrayBench.class);
        for (int n = 0; n < classes.size(); n++) {
            classes.addAll(List.of(classes.get(n).getDeclaredClasses()));
        }
        return classes;
    }
}
