import java.io.IOException;
import java.lang.reflect.Executable;
import java.lang.reflect.Field;
import java.lang.reflect.Modifier;
import java.util.List;
import java.util.Set;
import java.util.regex.Matcher;
import java.util.regex.Pattern;

/** Those rules of LANGUAGE.md that can be looked up or counted; rule 1 is FaceTest's, 7 and 12 LongRunsTest's. */
public final class LanguageTest {
    private static final String[] FORBIDDEN = {
        "\\bthrow\\b", "\\bthrows\\b", "\\btry\\b", "\\bcatch\\b", "\\bsynchronized\\b", "\\bassert\\b", "->", "::",
        "\\bimport\\b", "\\bpackage\\b", "\\bjava\\.", "\\bthis\\b\\s*[,)]", "\\bequals\\b", "\\bhashCode\\b",
        "\\btoString\\b", "\\bstatic\\s*\\{", "\\bwhile\\s*\\(\\s*true\\b", "\\bfor\\s*\\(\\s*;\\s*;"};
    /** What the class uses of the library that rule 4 leaves. */
    private static final Set<String> LIBRARY = Set.of("Math.floorDiv", "Math.max", "Math.min");
    private static final Set<Class<?>> CONSTANTS = Set.of(int.class, long.class, boolean.class, char.class,
        String.class, int[].class, long[].class, char[].class, byte[].class);

    private static final int MOST_CLASSES = 12;
    private static final int MOST_FIELDS = 20;
    private static final int MOST_PARAMETERS = 7;
    private static final int MOST_LINES = 60;

    public static void main(String[] args) throws IOException {
        String code = Texts.code();
        forbiddenWords(code);
        libraryCalls(code);
        methodLines(code);
        Pattern outermost = Pattern.compile("(?m)^(\\w+ )*(class|enum|record|interface) ");
        Due.due("classes that are not inside another", outermost.matcher(code).results().count(), 1);
        List<Class<?>> classes = Face.classes();
        Due.holds(classes.size() + " classes are few", classes.size() <= MOST_CLASSES);
        for (Class<?> one : classes) {
            fields(one);
            parameters(one, one.getDeclaredMethods());
            parameters(one, one.getDeclaredConstructors());
        }
        Due.end();
    }

    private static void forbiddenWords(String code) {
        for (String word : FORBIDDEN) {
            Due.due(word + " in the class, times", Pattern.compile(word).matcher(code).results().count(), 0);
        }
    }

    /** Rule 4. Without an import, only java.lang is there, and its classes' names are known by their first letter. */
    private static void libraryCalls(String code) {
        List<String> own = Face.classes().stream().map(Class::getSimpleName).toList();
        Matcher call = Pattern.compile("\\b([A-Z][a-z]\\w*)\\.(\\w+)").matcher(code);
        while (call.find()) {
            Due.holds(call.group() + " is of the class, or may be used",
                own.contains(call.group(1)) || LIBRARY.contains(call.group()));
        }
        Matcher made = Pattern.compile("\\bnew (\\w+)").matcher(code);
        while (made.find()) {
            Due.holds(made.group() + " makes what is of the class, or numbers",
                own.contains(made.group(1)) || made.group(1).equals("int"));
        }
    }

    /** Rule 11. Methods stand at an indent of 4, those of classes inside at one of 8. */
    private static void methodLines(String code) {
        String[] lines = code.split("\n");
        for (int n = 0; n < lines.length; n++) {
            if (lines[n].matches("( {4}| {8})\\w[\\w\\[\\] ]*\\(.*\\) \\{")) {
                String end = lines[n].replaceAll("\\S.*", "") + "}";
                int last = n;
                while (last < lines.length && !lines[last].equals(end)) {
                    last++;
                }
                Due.holds(lines[n].strip() + " has few lines: " + (last - n + 1), last - n < MOST_LINES);
            }
        }
    }

    /** Rules 3, 5 and 11. */
    private static void fields(Class<?> one) {
        int fields = 0;
        for (Field field : one.getDeclaredFields()) {
            if (Modifier.isStatic(field.getModifiers())) {
                Due.holds(field + " is final", Modifier.isFinal(field.getModifiers()));
                Due.holds(field + " is a constant that may be", CONSTANTS.contains(field.getType()));
            } else {
                fields++;
                Due.holds(field + " is of a type that may be", isFieldType(field.getType()));
            }
        }
        Due.holds(one + " has few fields: " + fields, fields <= MOST_FIELDS);
    }

    private static boolean isFieldType(Class<?> type) {
        Class<?> element = type.isArray() ? type.getComponentType() : type;
        return element.isPrimitive() || Face.classes().contains(element);
    }

    private static void parameters(Class<?> one, Executable[] methods) {
        for (Executable method : methods) {
            Due.holds(method + " of " + one + " has few parameters", method.getParameterCount() <= MOST_PARAMETERS);
        }
    }
}
