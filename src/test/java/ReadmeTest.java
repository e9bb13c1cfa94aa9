import java.io.IOException;
import java.lang.reflect.InvocationTargetException;
import java.lang.reflect.Method;
import java.lang.reflect.Modifier;
import java.nio.file.Files;
import java.nio.file.Path;
import java.util.HashMap;
import java.util.Map;
import java.util.TreeSet;
import java.util.regex.Matcher;
import java.util.regex.Pattern;

/** README.md, which is read where the test is run: each call of its examples answers what stands behind it. */
final class ReadmeTest {
    private static final String NEW_FOREST = "CorkForest forest = new CorkForest();";
    private static final Pattern CALL =
        Pattern.compile("forest\\.(\\w+)\\(([^)]*)\\);\\s*// (throws \\w+|-?\\w+)(: .*)?");

    private static final Map<String, Method> FACE = new HashMap<>();
    private static final TreeSet<String> NOT_SHOWN = new TreeSet<>();
    private static CorkForest forest = null;

    public static void main(String[] args) throws IOException {
        for (Method method : CorkForest.class.getDeclaredMethods()) {
            if (Modifier.isPublic(method.getModifiers())) {
                FACE.put(method.getName(), method);
                NOT_SHOWN.add(method.getName());
            }
        }
        boolean inExample = false;
        for (String line : Files.readAllLines(Path.of("README.md"))) {
            if (line.startsWith("```")) {
                inExample = line.equals("```java");
                forest = null;
            } else if (inExample && !line.isEmpty() && !line.startsWith("//")) {
                follow(line);
            }
        }
        Check.same("calls of the face that no example makes", NOT_SHOWN, new TreeSet<String>());
        Check.finish();
    }

    private static void follow(String line) {
        if (line.equals(NEW_FOREST)) {
            forest = new CorkForest();
            return;
        }
        Matcher call = CALL.matcher(line);
        if (forest == null || !call.matches() || !FACE.containsKey(call.group(1))) {
            Check.fail("README.md has a line that is no call: " + line);
            return;
        }
        NOT_SHOWN.remove(call.group(1));
        Check.same("README.md: " + line, answer(FACE.get(call.group(1)), call.group(2)), call.group(3));
    }

    private static String answer(Method method, String arguments) {
        String[] told = arguments.isEmpty() ? new String[0] : arguments.split(", ");
        Object[] values = new Object[told.length];
        for (int i = 0; i < told.length; i++) {
            values[i] = value(told[i]);
        }
        try {
            return told(method, method.invoke(forest, values));
        } catch (InvocationTargetException e) {
            return "throws " + e.getCause().getClass().getSimpleName();
        } catch (ReflectiveOperationException | IllegalArgumentException e) {
            return "no such call";
        }
    }

    /** Of strip -1 is no NONE: the first thing is against it. */
    private static String told(Method method, Object got) {
        if (method.getReturnType() == void.class) {
            return "void";
        }
        String number = String.valueOf(got);
        return number.equals("" + CorkForest.NONE) && !method.getName().equals("strip") ? "NONE" : number;
    }

    private static Object value(String told) {
        if (told.equals("true") || told.equals("false")) {
            return told.equals("true");
        }
        return told.startsWith("0b") ? Integer.parseInt(told.substring(2), 2) : Integer.decode(told).intValue();
    }
}
