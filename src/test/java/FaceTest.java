import java.lang.reflect.Constructor;
import java.lang.reflect.Field;
import java.lang.reflect.Method;
import java.lang.reflect.Modifier;
import java.util.ArrayList;
import java.util.Arrays;
import java.util.List;
import java.util.stream.Collectors;

/** The public face, by the document's section of that name: all of it, and nothing else that can be seen. */
public final class FaceTest {
    private static final String[] METHODS = {
        "public boolean header(int, int, int, int)",
        "public int put(int) throws IllegalStateException",
        "public int clear()",
        "public int byteAt(int)",
        "public int run() throws IndexOutOfBoundsException, IllegalArgumentException, ArithmeticException, "
            + "UnsupportedOperationException, IllegalStateException, NoSuchElementException",
        "public int row(int, int) throws IndexOutOfBoundsException",
        "public int find(int)",
        "public int entry(int, int, int, int, int) throws IllegalArgumentException, IllegalStateException",
        "public int write(int) throws NoSuchElementException, IllegalArgumentException, IllegalStateException",
        "public int count(int)",
    };

    public static void main(String[] args) {
        Class<LinePrograms> face = LinePrograms.class;
        Checks.equal("the class", List.of("public final"), List.of(Modifier.toString(face.getModifiers())));
        Checks.isTrue("no package", face.getPackageName().isEmpty());
        Checks.isTrue("no class above it", face.getSuperclass() == Object.class);
        Checks.equal("interfaces", 0, face.getInterfaces().length);
        Checks.equal("constructors", List.of("public LinePrograms()"), constructors(face));
        Checks.equal("methods", sorted(Arrays.asList(METHODS)), methods(face));
        Checks.equal("fields that can be seen", List.of(), fields(face));
        classesInside(face);
        Checks.finish();
    }

    private static List<String> constructors(Class<?> face) {
        List<String> seen = new ArrayList<>();
        for (Constructor<?> c : face.getDeclaredConstructors()) {
            seen.add(Modifier.toString(c.getModifiers()) + " " + c.getName() + types(c.getParameterTypes())
                    + thrown(c.getExceptionTypes()));
        }
        return seen;
    }

    private static List<String> methods(Class<?> face) {
        List<String> seen = new ArrayList<>();
        for (Method m : face.getDeclaredMethods()) {
            if (!Modifier.isPrivate(m.getModifiers())) {
                seen.add(Modifier.toString(m.getModifiers()) + " " + m.getReturnType().getName() + " " + m.getName()
                        + types(m.getParameterTypes()) + thrown(m.getExceptionTypes()));
            }
        }
        return sorted(seen);
    }

    private static List<String> fields(Class<?> face) {
        List<String> seen = new ArrayList<>();
        for (Field f : face.getDeclaredFields()) {
            if (!Modifier.isPrivate(f.getModifiers())) {
                seen.add(f.toString());
            }
        }
        return seen;
    }

    private static void classesInside(Class<?> face) {
        for (Class<?> inside : face.getDeclaredClasses()) {
            int modifiers = inside.getModifiers();
            Checks.isTrue(inside + " is static", Modifier.isStatic(modifiers));
            Checks.isFalse(inside + " can be seen", Modifier.isPublic(modifiers) || Modifier.isProtected(modifiers));
        }
    }

    private static String types(Class<?>[] types) {
        return Arrays.stream(types).map(Class::getName).collect(Collectors.joining(", ", "(", ")"));
    }

    private static String thrown(Class<?>[] types) {
        return types.length == 0 ? ""
                : Arrays.stream(types).map(Class::getSimpleName).collect(Collectors.joining(", ", " throws ", ""));
    }

    private static List<String> sorted(List<String> texts) {
        return texts.stream().sorted().collect(Collectors.toList());
    }
}
