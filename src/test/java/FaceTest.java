import java.io.IOException;
import java.lang.reflect.Constructor;
import java.lang.reflect.Field;
import java.lang.reflect.Member;
import java.lang.reflect.Method;
import java.lang.reflect.Modifier;
import java.util.ArrayList;
import java.util.Arrays;
import java.util.List;
import java.util.TreeSet;

/** The public face: what stands in the document's code block, and nothing else (LANGUAGE.md, rule 1). */
public final class FaceTest {
    private static final String HEAD = "public final class TrayBench";
    private static final String CONSTANT = "public static final int NONE = -1;";
    private static final String CONSTRUCTOR = "public TrayBench();";

    public static void main(String[] args) throws IOException, ReflectiveOperationException {
        documentHasThisFace();
        sourceHasEveryLine();
        classIsPublicAndFinal();
        constantIsMinusOne();
        constructorIsThere();
        methodsAreThoseOfTheDocument();
        allElseIsPrivate();
        classesInsideAreStatic();
        noOtherMethodBearsAPublicName();
        Due.end();
    }

    /** The face stands in Face too, so that the test has something to hold the class to without the document. */
    private static void documentHasThisFace() throws IOException {
        String document = Texts.document();
        if (document.isEmpty()) {
            return;
        }
        List<String> face = new ArrayList<>(List.of(HEAD + " {", CONSTANT, CONSTRUCTOR));
        face.addAll(Arrays.asList(Face.METHODS));
        face.add("}");
        String block = Texts.between(document, "```java\n", "```");
        List<String> lines = Arrays.stream(block.split("\n")).map(String::strip).toList();
        Due.holds("the document's code block is the face that is tested: " + lines, lines.equals(face));
    }

    private static void sourceHasEveryLine() throws IOException {
        String code = Texts.code();
        List<String> lines = new ArrayList<>(List.of(HEAD + ";", CONSTRUCTOR));
        lines.addAll(Arrays.asList(Face.METHODS));
        for (String line : lines) {
            String opened = line.replace(";", " {");
            Due.due("the class has '" + opened + "', times", Texts.times(code, opened), 1);
        }
        Due.due("the class has '" + CONSTANT + "', times", Texts.times(code, CONSTANT), 1);
    }

    private static void classIsPublicAndFinal() {
        Due.holds("the class is public and final", TrayBench.class.getModifiers() == (Modifier.PUBLIC | Modifier.FINAL));
        Due.holds("the class has no package", TrayBench.class.getPackageName().isEmpty());
        Due.holds("the class extends nothing", TrayBench.class.getSuperclass() == Object.class);
        Due.due("interfaces of the class", TrayBench.class.getInterfaces().length, 0);
    }

    private static void constantIsMinusOne() throws ReflectiveOperationException {
        Field none = TrayBench.class.getDeclaredField("NONE");
        int open = Modifier.PUBLIC | Modifier.STATIC | Modifier.FINAL;
        Due.holds("NONE is public, static and final", none.getModifiers() == open);
        Due.holds("NONE is an int", none.getType() == int.class);
        Due.due("NONE", TrayBench.NONE, -1);
    }

    private static void constructorIsThere() {
        Constructor<?>[] constructors = TrayBench.class.getDeclaredConstructors();
        Due.due("constructors", constructors.length, 1);
        Due.holds("the constructor is public", constructors[0].getModifiers() == Modifier.PUBLIC);
        Due.due("the constructor's parameters", constructors[0].getParameterCount(), 0);
        Due.due("the constructor's exceptions", constructors[0].getExceptionTypes().length, 0);
    }

    private static void methodsAreThoseOfTheDocument() {
        TreeSet<String> got = new TreeSet<>();
        for (Method method : TrayBench.class.getDeclaredMethods()) {
            if (!Modifier.isPrivate(method.getModifiers())) {
                got.add(method.toGenericString());
            }
        }
        TreeSet<String> want = new TreeSet<>();
        for (String line : Face.METHODS) {
            String types = line.replaceAll("int \\w+(?=[,)])", "int").replace(", ", ",");
            want.add(types.replaceFirst("public int ", "public int TrayBench.").replace(";", ""));
        }
        Due.holds("methods that are not private: " + got + ", due are " + want, got.equals(want));
    }

    private static void allElseIsPrivate() {
        for (Field field : TrayBench.class.getDeclaredFields()) {
            Due.holds(field + " is private", field.getName().equals("NONE") || isPrivate(field));
        }
        TreeSet<String> face = new TreeSet<>(Arrays.asList(Face.names()));
        for (Method method : TrayBench.class.getDeclaredMethods()) {
            Due.holds(method + " is private", face.contains(method.getName()) || isPrivate(method));
        }
    }

    private static boolean isPrivate(Member member) {
        return Modifier.isPrivate(member.getModifiers());
    }

    private static void classesInsideAreStatic() {
        for (Class<?> inside : TrayBench.class.getDeclaredClasses()) {
            int modifiers = inside.getModifiers();
            Due.holds(inside + " is static", Modifier.isStatic(modifiers));
            Due.holds(inside + " is private or package-visible",
                !Modifier.isPublic(modifiers) && !Modifier.isProtected(modifiers));
        }
    }

    private static void noOtherMethodBearsAPublicName() {
        List<Class<?>> classes = Face.classes();
        TreeSet<String> face = new TreeSet<>(Arrays.asList(Face.names()));
        for (Class<?> one : classes) {
            for (Method method : one.getDeclaredMethods()) {
                boolean open = one == TrayBench.class && Modifier.isPublic(method.getModifiers());
                Due.holds(method + " has a name of its own", open || !face.contains(method.getName()));
            }
        }
    }
}
