import java.io.IOException;
import java.lang.reflect.Constructor;
import java.lang.reflect.Field;
import java.lang.reflect.Method;
import java.lang.reflect.Modifier;
import java.nio.file.Files;
import java.nio.file.Path;
import java.util.Arrays;
import java.util.List;
import java.util.TreeSet;
import java.util.stream.Collectors;

/** The public face, and those rules of the language document that reflection and the text itself can show. */
public final class FaceTest {
    private static final String SOURCE = "src/main/java/PlainService.java";
    private static final List<String> FACE = List.of(
        "int best(int, int) IllegalArgumentException IndexOutOfBoundsException",
        "int call(int, int, int) IllegalArgumentException IndexOutOfBoundsException IllegalStateException",
        "int count(int, int, int) IllegalArgumentException IndexOutOfBoundsException",
        "int cover(int) IndexOutOfBoundsException",
        "int event(int, int, int, int, int) IllegalArgumentException IndexOutOfBoundsException UnsupportedOperationException",
        "int events()",
        "int hears(int, int) IllegalArgumentException IndexOutOfBoundsException",
        "int missing(int, int, int, int) IllegalArgumentException IndexOutOfBoundsException",
        "int refused()",
        "int sector(int, int) IllegalArgumentException IndexOutOfBoundsException",
        "int sent(int, int) IllegalArgumentException IndexOutOfBoundsException",
        "int state(int, int) IllegalArgumentException IndexOutOfBoundsException",
        "int way(int, int, int) IllegalArgumentException IndexOutOfBoundsException");

    private FaceTest() {
    }

    public static void main(String[] args) throws IOException {
        publicFace();
        classesInside();
        text();
        Run.close();
    }

    private static void publicFace() {
        Class<?> face = PlainService.class;
        check("public and final", Modifier.isPublic(face.getModifiers()) && Modifier.isFinal(face.getModifiers()));
        TreeSet<String> shown = new TreeSet<>();
        TreeSet<String> hidden = new TreeSet<>();
        for (Method method : face.getDeclaredMethods()) {
            if (Modifier.isPrivate(method.getModifiers())) {
                hidden.add(method.getName());
            } else {
                shown.add(described(method));
            }
        }
        Run.check("the methods that are not private", shown.toString(), FACE.toString());
        for (String method : FACE) {
            String name = method.substring("int ".length(), method.indexOf('('));
            check("no private method is called " + name, !hidden.contains(name));
        }
        Constructor<?>[] constructors = face.getDeclaredConstructors();
        check("one public constructor without parameters", constructors.length == 1
                && Modifier.isPublic(constructors[0].getModifiers()) && constructors[0].getParameterCount() == 0);
        for (Field field : face.getDeclaredFields()) {
            check("field " + field.getName() + " is private", Modifier.isPrivate(field.getModifiers()));
        }
    }

    private static String described(Method method) {
        String thrown = Arrays.stream(method.getExceptionTypes()).map(e -> " " + e.getSimpleName())
                .collect(Collectors.joining());
        String parameters = Arrays.stream(method.getParameterTypes()).map(Class::getName).collect(Collectors.joining(", "));
        return method.getReturnType().getName() + " " + method.getName() + "(" + parameters + ")" + thrown;
    }

    private static void classesInside() {
        Class<?>[] classes = PlainService.class.getDeclaredClasses();
        check("at most twelve classes", classes.length < 12);
        for (Class<?> inside : classes) {
            int modifiers = inside.getModifiers();
            check(inside.getName() + " is static", Modifier.isStatic(modifiers));
            check(inside.getName() + " is hidden", !Modifier.isPublic(modifiers) && !Modifier.isProtected(modifiers));
            fewParameters(inside);
            staticFieldsAreConstants(inside);
        }
        fewParameters(PlainService.class);
        staticFieldsAreConstants(PlainService.class);
    }

    private static void fewParameters(Class<?> type) {
        for (Method method : type.getDeclaredMethods()) {
            check(method.getName() + " has at most seven parameters", method.getParameterCount() <= 7);
        }
    }

    private static void staticFieldsAreConstants(Class<?> type) {
        int own = 0;
        for (Field field : type.getDeclaredFields()) {
            if (Modifier.isStatic(field.getModifiers())) {
                check(field.getName() + " is final", Modifier.isFinal(field.getModifiers()));
            } else {
                own++;
            }
        }
        check(type.getName() + " has at most twenty fields", own <= 20);
    }

    private static void text() throws IOException {
        String source = Files.readString(Path.of(SOURCE));
        String[] ruledOut = {"import ", "package ", "->", "::", "try {", "catch (", "finally", "synchronized", "assert ",
            "System.", "Exact(", "double", "float", "\" +", "+ \""};
        for (String word : ruledOut) {
            check("the text has no '" + word + "'", !isInCode(source, word));
        }
        check("characters 0 to 127 alone", source.chars().allMatch(c -> c < 128));
    }

    private static boolean isInCode(String source, String word) {
        return source.lines().map(String::strip).filter(line -> !line.startsWith("*") && !line.startsWith("/*")
                && !line.startsWith("//")).anyMatch(line -> line.contains(word));
    }

    private static void check(String what, boolean holds) {
        Run.check(what, holds ? "yes" : "no", "yes");
    }
}
