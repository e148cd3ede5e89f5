import java.io.IOException;
import java.lang.reflect.InvocationTargetException;
import java.lang.reflect.Method;
import java.lang.reflect.Modifier;
import java.nio.file.Files;
import java.nio.file.Path;
import java.util.regex.Matcher;
import java.util.regex.Pattern;

/**
 * Makes the calls of the session in README.md, and asks for the answers that stand there.
 * It is run from the project's root.
 */
public final class ReadmeTest {
    private static final String NEW_OBJECT = "RelayTuner x = new RelayTuner();";
    private static final Pattern APPENDED = Pattern.compile(
            "for \\(char c : \"(.*)\"\\.toCharArray\\(\\)\\) x\\.append\\(c\\);");
    private static final Pattern CALL = Pattern.compile(
            "x\\.(\\w+)\\((.*)\\); +// (?:throws (\\w+)|(NONE|-?\\d+))\\b.*");

    private static RelayTuner x;
    private static int calls = 0;

    public static void main(String[] args) throws IOException, IllegalAccessException {
        String readme = Files.readString(Path.of("README.md"));
        Matcher session = Pattern.compile("(?s)```java\n(.*?)```").matcher(readme);
        while (session.find()) {
            for (String line : session.group(1).split("\n")) {
                follow(line);
            }
        }
        Due.is("README.md shows a session of some length", 1, calls >= 30 ? 1 : 0);
        everyMethodIsNamed(readme);
        Due.finish();
    }

    private static void follow(String line) throws IllegalAccessException {
        Matcher appended = APPENDED.matcher(line);
        Matcher call = CALL.matcher(line);
        if (line.equals(NEW_OBJECT)) {
            x = new RelayTuner();
        } else if (appended.matches()) {
            for (char c : appended.group(1).toCharArray()) {
                x.append(c);
            }
        } else if (call.matches()) {
            calls++;
            Due.same("README.md: " + line, due(call), answer(call.group(1), call.group(2)));
        } else {
            Due.is("a line of README.md that is no call: " + line, 1, line.isEmpty() || line.startsWith("//") ? 1 : 0);
        }
    }

    private static String due(Matcher call) {
        if (call.group(3) != null) {
            return "throws " + call.group(3);
        }
        return call.group(4).equals("NONE") ? String.valueOf(RelayTuner.NONE) : call.group(4);
    }

    private static String answer(String name, String written) throws IllegalAccessException {
        String[] arguments = written.isEmpty() ? new String[0] : written.split(", ");
        Method method = named(name, arguments.length);
        Object[] values = new Object[arguments.length];
        for (int k = 0; k < arguments.length; k++) {
            values[k] = value(method.getParameterTypes()[k], arguments[k]);
        }
        try {
            return String.valueOf(method.invoke(x, values));
        } catch (InvocationTargetException e) {
            return "throws " + e.getCause().getClass().getSimpleName();
        }
    }

    private static Method named(String name, int arguments) {
        for (Method method : RelayTuner.class.getMethods()) {
            if (method.getName().equals(name) && method.getParameterCount() == arguments) {
                return method;
            }
        }
        throw new IllegalStateException("README.md calls " + name + ", which is no method of the class");
    }

    private static Object value(Class<?> type, String written) {
        if (type == boolean.class) {
            return Boolean.valueOf(written);
        }
        return type == long.class ? (Object) Long.valueOf(written.replace("L", "")) : (Object) Integer.valueOf(written);
    }

    private static void everyMethodIsNamed(String readme) {
        for (Method method : RelayTuner.class.getDeclaredMethods()) {
            if (Modifier.isPublic(method.getModifiers())) {
                String name = method.getName();
                Due.is("README.md names " + name, 1, readme.contains("`" + name + "`") ? 1 : 0);
            }
        }
    }
}
