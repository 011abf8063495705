import java.io.IOException;
import java.lang.reflect.Constructor;
import java.lang.reflect.Field;
import java.lang.reflect.Method;
import java.lang.reflect.Modifier;
import java.nio.file.Files;
import java.nio.file.Path;
import java.util.ArrayList;
import java.util.HashSet;
import java.util.List;
import java.util.Set;
import java.util.TreeSet;

/** The class has the document's face and no other, and keeps off what LANGUAGE.md leaves out. */
public final class FaceTest {
    private static final Check C = new Check();

    private static final String[] FACE = {
        "int bound()",
        "int column()",
        "int columnOf(int) IndexOutOfBoundsException",
        "int cut(int, int) IndexOutOfBoundsException IllegalStateException",
        "int design(int) IllegalArgumentException UnsupportedOperationException",
        "int designed(int) IndexOutOfBoundsException IllegalStateException",
        "int fitting(int) IndexOutOfBoundsException",
        "int gap() IllegalStateException",
        "int keep(int, int) IndexOutOfBoundsException IllegalStateException IllegalArgumentException"
                + " UnsupportedOperationException",
        "int kept(int, int) IndexOutOfBoundsException",
        "int order(int, int) IllegalStateException IllegalArgumentException",
        "int over(int) IndexOutOfBoundsException IllegalStateException",
        "void pieces(int, int) IndexOutOfBoundsException IllegalArgumentException",
        "void price(int, int) IndexOutOfBoundsException IllegalArgumentException",
        "void sheet(int) IllegalArgumentException",
    };

    private static final String[] LEFT_OUT = {
        "import ", "package ", "->", "::", "catch", "finally", "assert ", "synchronized", "Exact(",
        "double", "float", "static {", "Random", "System.nanoTime", "System.currentTimeMillis",
        "while (true)", "for (;;)",
    };

    public static void main(String[] args) throws IOException {
        Class<?> face = PatternColumns.class;
        C.isTrue("public and final", Modifier.isPublic(face.getModifiers())
                && Modifier.isFinal(face.getModifiers()));
        Constructor<?>[] made = face.getDeclaredConstructors();
        C.isTrue("one public constructor", made.length == 1 && Modifier.isPublic(made[0].getModifiers())
                && made[0].getParameterCount() == 0);
        methods(face);
        for (Field field : face.getDeclaredFields()) {
            C.isTrue("private: " + field.getName(), Modifier.isPrivate(field.getModifiers()));
        }
        for (Class<?> inside : face.getDeclaredClasses()) {
            C.isTrue("static: " + inside, Modifier.isStatic(inside.getModifiers())
                    && !Modifier.isPublic(inside.getModifiers()) && !Modifier.isProtected(inside.getModifiers()));
        }
        source();
        C.end("FaceTest");
    }

    private static void methods(Class<?> face) {
        Set<String> open = new TreeSet<>();
        Set<String> names = new HashSet<>();
        List<Method> closed = new ArrayList<>();
        for (Method method : face.getDeclaredMethods()) {
            if (Modifier.isPublic(method.getModifiers())) {
                open.add(text(method));
                names.add(method.getName());
            } else {
                closed.add(method);
            }
        }
        C.isTrue("the face is " + open, open.equals(Set.of(FACE)));
        for (Class<?> inside : face.getDeclaredClasses()) {
            for (Method method : inside.getDeclaredMethods()) {
                C.isTrue("a name of the face: " + method, !names.contains(method.getName()));
            }
        }
        for (Method method : closed) {
            C.isTrue("private: " + method, Modifier.isPrivate(method.getModifiers()));
            C.isTrue("a name of the face: " + method, !names.contains(method.getName()));
        }
    }

    private static String text(Method method) {
        StringBuilder text = new StringBuilder();
        text.append(method.getReturnType().getSimpleName()).append(' ').append(method.getName()).append('(');
        for (int i = 0; i < method.getParameterCount(); i++) {
            text.append(i == 0 ? "" : ", ").append(method.getParameterTypes()[i].getSimpleName());
        }
        text.append(')');
        for (Class<?> thrown : method.getExceptionTypes()) {
            text.append(' ').append(thrown.getSimpleName());
        }
        return text.toString();
    }

    private static void source() throws IOException {
        String source = Files.readString(Path.of("src/main/java/PatternColumns.java"));
        for (String word : LEFT_OUT) {
            C.isTrue("without " + word, !source.contains(word));
        }
    }

    private FaceTest() {
    }
}
