import java.io.IOException;
import java.lang.reflect.InvocationTargetException;
import java.lang.reflect.Method;
import java.nio.file.Files;
import java.nio.file.Path;
import java.util.Set;
import java.util.TreeSet;
import java.util.regex.Matcher;
import java.util.regex.Pattern;

/** README.md's example: each call is answered as it says there, and each method of the face is called. */
public final class ReadmeTest {
    private static final Pattern CALL = Pattern.compile("(?m)^x\\.(\\w+)\\(([^)]*)\\);(?: +// ([\\w-]+)(?::.*)?)?$");

    public static void main(String[] args) throws IOException {
        HazardTables x = new HazardTables();
        Set<String> missing = new TreeSet<>();
        for (Method method : HazardTables.class.getMethods()) {
            if (method.getDeclaringClass() == HazardTables.class) {
                missing.add(method.getName());
            }
        }
        Matcher call = CALL.matcher(Files.readString(Path.of("README.md")));
        while (call.find()) {
            String due = String.valueOf(call.group(3));
            Due.answer(call.group(), due, () -> String.valueOf(called(x, call.group(1), call.group(2).split(" *, *"))));
            missing.remove(call.group(1));
        }
        Due.same("methods that the example does not call", new TreeSet<String>(), missing);
        Due.end();
    }

    private static Object called(HazardTables x, String name, String[] words) {
        for (Method method : HazardTables.class.getMethods()) {
            if (method.getName().equals(name)) {
                return called(x, method, words);
            }
        }
        return "there is no such method";
    }

    private static Object called(HazardTables x, Method method, String[] words) {
        Class<?>[] types = method.getParameterTypes();
        Object[] values = new Object[types.length];
        for (int i = 0; i < values.length; i++) {
            values[i] = value(types[i], words[i]);
        }
        try {
            return method.invoke(x, values);
        } catch (InvocationTargetException e) {
            return "throws " + e.getCause();
        } catch (IllegalAccessException e) {
            return "is not public";
        }
    }

    private static Object value(Class<?> type, String word) {
        if (type == boolean.class) {
            return Boolean.valueOf(word);
        }
        long number = Long.decode(word.replace("L", ""));
        return type == long.class ? (Object) number : (Object) (int) number;
    }
}
