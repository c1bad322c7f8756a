import java.io.IOException;
import java.lang.reflect.Constructor;
import java.lang.reflect.Field;
import java.lang.reflect.Method;
import java.lang.reflect.Modifier;
import java.nio.file.Files;
import java.nio.file.Path;
import java.util.Arrays;
import java.util.TreeSet;

/** The public face of the document, and those rules of LANGUAGE.md that can be looked up. */
public final class FaceTest {
    private static final String[] METHODS = {
        "lay 3", "take 2", "length 2", "read 3", "write 4", "change 4", "step 3", "copy 5", "day 1", "where 1",
        "plot 4", "furrows 1", "lift 2", "get 3", "set 4", "sow 5", "told 0"};
    private static final String[] FORBIDDEN = {
        "\\bthrow\\b", "\\btry\\b", "\\bcatch\\b", "\\bsynchronized\\b", "\\bassert\\b", "->", "::", "\\bimport\\b",
        "\\bpackage\\b", "\\bFloat\\.", "\\bDouble\\.", "Exact\\b", "\\bSystem\\."};

    public static void main(String[] args) throws IOException {
        members();
        words();
        Due.end();
    }

    private static void members() {
        Due.due("public and final", TrayBench.class.getModifiers(), Modifier.PUBLIC | Modifier.FINAL);
        TreeSet<String> open = new TreeSet<>();
        TreeSet<String> hidden = new TreeSet<>();
        for (Method m : TrayBench.class.getDeclaredMethods()) {
            if (m.getModifiers() == Modifier.PUBLIC && m.getReturnType() == int.class) {
                open.add(m.getName() + " " + m.getParameterCount());
            } else {
                Due.due(m + " private", Modifier.isPrivate(m.getModifiers()) ? 1 : 0, 1);
                hidden.add(m.getName());
            }
        }
        Due.due("methods " + open, open.equals(new TreeSet<>(Arrays.asList(METHODS))) ? 1 : 0, 1);
        for (String method : METHODS) {
            Due.due("private " + method, hidden.contains(method.split(" ")[0]) ? 1 : 0, 0);
        }
        for (Field f : TrayBench.class.getDeclaredFields()) {
            if (!f.getName().equals("NONE")) {
                Due.due(f + " private", Modifier.isPrivate(f.getModifiers()) ? 1 : 0, 1);
            }
        }
        Constructor<?>[] constructors = TrayBench.class.getDeclaredConstructors();
        Due.due("constructors", constructors.length, 1);
        Due.due("constructor's parameters", constructors[0].getParameterCount(), 0);
        for (Class<?> inside : TrayBench.class.getDeclaredClasses()) {
            Due.due(inside + " static", Modifier.isStatic(inside.getModifiers()) ? 1 : 0, 1);
        }
    }

    private static void words() throws IOException {
        String source = Files.readString(Path.of("src/main/java/TrayBench.java"));
        String code = source.replaceAll("(?s)/\\*.*?\\*/", "").replaceAll("//.*", "");
        for (String word : FORBIDDEN) {
            Due.due(word + " in the class", code.split(word, -1).length - 1, 0);
        }
    }
}
