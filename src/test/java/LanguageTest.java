import java.io.IOException;
import java.lang.reflect.Constructor;
import java.lang.reflect.Field;
import java.lang.reflect.Method;
import java.lang.reflect.Modifier;
import java.nio.file.Files;
import java.nio.file.Path;
import java.util.Arrays;
import java.util.Set;
import java.util.TreeSet;
import java.util.regex.Matcher;
import java.util.regex.Pattern;
import java.util.stream.Collectors;

/** The rules of LANGUAGE.md that can be seen from outside. It is run from the project's root. */
public final class LanguageTest {
    private static final String FACE = "about(int) accept() account(int) ahead(int,int) append(int) bestRule(int) "
        + "clearText() discard(int) disturb(int) errorPosition() load() middle(boolean) mode(int) "
        + "outcome(int,int,int) proposal(int,int) restore(int) runScript(int,long) save(int) set(int,int) "
        + "settlesAfter(int) simulate(long,int) swing(int,int) takeBack() tick(int) toleranceFor(int) "
        + "tryRule(int) undo()";

    public static void main(String[] args) throws IOException {
        face();
        classes();
        String code = Files.readString(Path.of("src/main/java/RelayTuner.java"))
                .replaceAll("(?s)/\\*.*?\\*/", "").replaceAll("//[^\n]*", "").replaceAll("\"[^\"]*\"", "\"\"");
        words(code);
        library(code);
        Due.finish();
    }

    private static void face() {
        Set<String> methods = new TreeSet<>();
        Set<String> names = new TreeSet<>();
        for (Method m : RelayTuner.class.getDeclaredMethods()) {
            if (!Modifier.isPrivate(m.getModifiers())) {
                Due.is(m + " is public, not static, and answers an int", 1, Modifier.isPublic(m.getModifiers())
                        && !Modifier.isStatic(m.getModifiers()) && m.getReturnType() == int.class ? 1 : 0);
                names.add(m.getName());
                methods.add(m.getName() + "(" + Arrays.stream(m.getParameterTypes()).map(Class::getName)
                        .collect(Collectors.joining(",")) + ")");
            }
        }
        Due.same("the face", FACE, String.join(" ", methods));
        for (Field f : RelayTuner.class.getDeclaredFields()) {
            Due.is(f + " is private or the constant", 1,
                    Modifier.isPrivate(f.getModifiers()) || f.getName().equals("NONE") ? 1 : 0);
        }
        Constructor<?>[] constructors = RelayTuner.class.getDeclaredConstructors();
        Due.is("constructors", 1, constructors.length);
        Due.is("it is public", 1, Modifier.isPublic(constructors[0].getModifiers()) ? 1 : 0);
        for (Class<?> c : RelayTuner.class.getDeclaredClasses()) {
            for (Method m : c.getDeclaredMethods()) {
                Due.is(m + " bears a name of the face", 0, names.contains(m.getName()) ? 1 : 0);
            }
        }
    }

    private static void classes() {
        Class<?>[] inside = RelayTuner.class.getDeclaredClasses();
        Due.is("the classes are at most twelve", 1, inside.length + 1 <= 12 ? 1 : 0);
        for (Class<?> c : inside) {
            Due.is(c + " is static and private", 1,
                    Modifier.isStatic(c.getModifiers()) && Modifier.isPrivate(c.getModifiers()) ? 1 : 0);
            int fields = 0;
            for (Field f : c.getDeclaredFields()) {
                boolean fixed = Modifier.isStatic(f.getModifiers());
                fields += fixed ? 0 : 1;
                Due.is(f + " is final, if it is static", 1, !fixed || Modifier.isFinal(f.getModifiers()) ? 1 : 0);
            }
            Due.is(c + " has at most twenty fields", 1, fields <= 20 ? 1 : 0);
            for (Method m : c.getDeclaredMethods()) {
                Due.is(m + " takes at most seven", 1, m.getParameterCount() <= 7 ? 1 : 0);
            }
        }
    }

    private static void words(String code) {
        String[] ruledOut = {"import", "package", "try", "catch", "finally", "synchronized", "assert", "yield", "var",
            "protected", "volatile", "transient", "native", "float", "double", "enum", "record", "interface",
            "extends", "implements", "instanceof", "Object", "Thread"};
        for (String word : ruledOut) {
            Due.is("the word " + word, 0, Pattern.compile("\\b" + word + "\\b").matcher(code).find() ? 1 : 0);
        }
        for (String sign : new String[] {"->", "::", "@", "Exact", "\"\" +", "+ \"\""}) {
            Due.is("the sign " + sign, 0, code.contains(sign) ? 1 : 0);
        }
    }

    private static void library(String code) {
        Set<String> own = Set.of("RelayTuner", "Text", "Plant", "Control", "Swings", "Trials", "Accounts", "State",
            "Rule", "Script", "History", "Slots");
        Set<String> allowed = Set.of("System.arraycopy", "Math.abs", "Math.max", "Math.min", "Integer.compare");
        Matcher m = Pattern.compile("\\b([A-Z][a-zA-Z]*[a-z][a-zA-Z]*)(\\.[a-zA-Z]+)?").matcher(code);
        while (m.find()) {
            String name = m.group(1);
            boolean exception = name.equals("IllegalArgumentException") || name.equals("IllegalStateException")
                || name.equals("IndexOutOfBoundsException");
            Due.is("the name " + m.group(), 1, own.contains(name) || exception || allowed.contains(m.group()) ? 1 : 0);
        }
    }
}
