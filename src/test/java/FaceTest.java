import java.lang.reflect.Constructor;
import java.lang.reflect.Field;
import java.lang.reflect.Method;
import java.lang.reflect.Modifier;
import java.util.ArrayList;
import java.util.Arrays;
import java.util.HashSet;
import java.util.List;
import java.util.Set;

/** The public face: what the document lists, and no other member that can be seen from outside. */
public final class FaceTest {
    private static final String[] FACE = {
        "int alter(int, int, int) throws IllegalArgumentException, IndexOutOfBoundsException",
        "int copy(int, int) throws IllegalArgumentException",
        "int digest(int, int) throws IllegalArgumentException",
        "int end(int, int) throws IllegalArgumentException, IndexOutOfBoundsException",
        "int feed(int, int, int, int, int) throws IndexOutOfBoundsException",
        "int length(int) throws IllegalArgumentException",
        "int resize(int, int) throws IllegalArgumentException",
        "boolean same(int, int) throws IllegalArgumentException",
        "long word(int, int) throws IllegalArgumentException, IndexOutOfBoundsException",
    };

    private FaceTest() {
    }

    public static void main(String[] args) {
        Class<?> face = SpongeDigests.class;
        Check.holds("public", Modifier.isPublic(face.getModifiers()));
        Check.holds("final", Modifier.isFinal(face.getModifiers()));
        checkConstructors(face);
        checkMethods(face);
        for (Field field : face.getDeclaredFields()) {
            Check.holds("private: " + field, Modifier.isPrivate(field.getModifiers()));
            checkStatic(field);
        }
        checkInside(face);
        Check.finish();
    }

    private static void checkConstructors(Class<?> face) {
        Constructor<?>[] constructors = face.getDeclaredConstructors();
        Check.equal("number of constructors", constructors.length, 1);
        Check.equal("parameters of the constructor", constructors[0].getParameterCount(), 0);
        Check.holds("public constructor", Modifier.isPublic(constructors[0].getModifiers()));
    }

    private static void checkMethods(Class<?> face) {
        Set<String> seen = new HashSet<>();
        Set<String> publicNames = new HashSet<>();
        List<String> hidden = new ArrayList<>();
        for (Method method : face.getDeclaredMethods()) {
            if (Modifier.isPrivate(method.getModifiers())) {
                hidden.add(method.getName());
            } else {
                Check.holds("public, not static: " + method,
                    Modifier.isPublic(method.getModifiers()) && !Modifier.isStatic(method.getModifiers()));
                seen.add(describe(method));
                publicNames.add(method.getName());
            }
        }
        Check.holds("the document's methods, not " + seen, seen.equals(new HashSet<>(Arrays.asList(FACE))));
        for (String name : hidden) {
            Check.holds("no private method with a public name: " + name, !publicNames.contains(name));
        }
    }

    private static void checkInside(Class<?> face) {
        for (Class<?> inside : face.getDeclaredClasses()) {
            Check.holds("static: " + inside, Modifier.isStatic(inside.getModifiers()));
            Check.holds("not public: " + inside,
                (inside.getModifiers() & (Modifier.PUBLIC | Modifier.PROTECTED)) == 0);
            for (Field field : inside.getDeclaredFields()) {
                checkStatic(field);
            }
        }
    }

    private static void checkStatic(Field field) {
        if (Modifier.isStatic(field.getModifiers())) {
            Check.holds("final: " + field, Modifier.isFinal(field.getModifiers()));
        }
    }

    private static String describe(Method method) {
        StringBuilder text = new StringBuilder();
        text.append(method.getReturnType().getSimpleName()).append(' ').append(method.getName());
        text.append('(').append(names(method.getParameterTypes())).append(") throws ");
        return text.append(names(method.getExceptionTypes())).toString();
    }

    private static String names(Class<?>[] types) {
        List<String> names = new ArrayList<>();
        for (Class<?> type : types) {
            names.add(type.getSimpleName());
        }
        return String.join(", ", names);
    }
}
