import java.lang.reflect.Constructor;
import java.lang.reflect.Field;
import java.lang.reflect.Method;
import java.lang.reflect.Modifier;
import java.util.Arrays;
import java.util.Set;
import java.util.TreeSet;

/** The public face: just what the document lists, with the exceptions that it names. */
public final class FaceTest {
    private static final String[] FACE = {
        "boolean in(int, int) throws IndexOutOfBoundsException, IllegalStateException",
        "boolean over(int, int) throws IllegalArgumentException",
        "int add(int, int) throws IllegalArgumentException, IndexOutOfBoundsException, UnsupportedOperationException",
        "int building(int, int) throws IndexOutOfBoundsException, UnsupportedOperationException",
        "int fresh(int) throws IndexOutOfBoundsException",
        "int material(int, int) throws IllegalArgumentException",
        "int mixture(int) throws IllegalArgumentException, IllegalStateException",
        "int near(int) throws IndexOutOfBoundsException",
        "int place()",
        "int read() throws IllegalStateException",
        "int say(long, int) throws IndexOutOfBoundsException, IllegalStateException",
        "int sign(long, int) throws IndexOutOfBoundsException, UnsupportedOperationException",
        "int step(int) throws IndexOutOfBoundsException, IllegalStateException",
        "int strict(int) throws IndexOutOfBoundsException",
        "int wind(int, int, boolean) throws IndexOutOfBoundsException",
        "void clear()",
        "void mark(int, int) throws IllegalArgumentException, IndexOutOfBoundsException",
    };

    public static void main(String[] args) {
        Set<String> found = new TreeSet<>();
        Set<String> publicNames = new TreeSet<>();
        Set<String> privateNames = new TreeSet<>();
        for (Method method : HazardTables.class.getDeclaredMethods()) {
            if (Modifier.isPrivate(method.getModifiers())) {
                privateNames.add(method.getName());
            } else {
                publicNames.add(method.getName());
                found.add(told(method));
                Due.same(method.getName() + " is public", true, Modifier.isPublic(method.getModifiers()));
            }
        }
        Due.same("methods", new TreeSet<>(Arrays.asList(FACE)), found);
        privateNames.retainAll(publicNames);
        Due.same("private methods with a public name", new TreeSet<String>(), privateNames);
        for (Field field : HazardTables.class.getDeclaredFields()) {
            Due.same(field.getName() + " is private", true, Modifier.isPrivate(field.getModifiers()));
        }
        Constructor<?>[] constructors = HazardTables.class.getDeclaredConstructors();
        Due.same("constructors", 1, constructors.length);
        Due.same("its parameters", 0, constructors[0].getParameterCount());
        Due.same("it is public", true, Modifier.isPublic(constructors[0].getModifiers()));
        Due.same("the class is public and final", true, Modifier.isPublic(HazardTables.class.getModifiers())
                && Modifier.isFinal(HazardTables.class.getModifiers()));
        for (Class<?> inside : HazardTables.class.getDeclaredClasses()) {
            Due.same(inside + " is static", true, Modifier.isStatic(inside.getModifiers()));
            Due.same(inside + " is not public", false, Modifier.isPublic(inside.getModifiers()));
        }
        Due.end();
    }

    private static String told(Method method) {
        StringBuilder told = new StringBuilder();
        told.append(method.getReturnType().getSimpleName()).append(' ').append(method.getName());
        told.append('(').append(list(method.getParameterTypes())).append(')');
        if (method.getExceptionTypes().length > 0) {
            told.append(" throws ").append(list(method.getExceptionTypes()));
        }
        return told.toString();
    }

    private static String list(Class<?>[] types) {
        return String.join(", ", Arrays.stream(types).map(Class::getSimpleName).toArray(String[]::new));
    }
}
