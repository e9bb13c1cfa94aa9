import java.lang.reflect.Constructor;
import java.lang.reflect.Field;
import java.lang.reflect.Method;
import java.lang.reflect.Modifier;
import java.util.Arrays;
import java.util.Set;
import java.util.TreeSet;

/** The public face, and what LANGUAGE.md says of members (rule 1). */
final class FaceTest {
    private static final String[] FACE = {
        "int feed(int, int, int, int, int)",
        "boolean end(int)",
        "int tree(int) IllegalArgumentException UnsupportedOperationException",
        "int years(int, int) IllegalArgumentException",
        "int law() IllegalArgumentException",
        "int fault()",
        "int says(int) NoSuchElementException",
        "boolean mark(int) IndexOutOfBoundsException",
        "int strip(int, int) IndexOutOfBoundsException IllegalArgumentException",
        "int wound(int) IndexOutOfBoundsException",
        "int fire(int) IndexOutOfBoundsException",
        "int look(int, int) IndexOutOfBoundsException NoSuchElementException",
        "int plank(int, int) IndexOutOfBoundsException NoSuchElementException",
        "int lot(int) IllegalArgumentException UnsupportedOperationException",
        "boolean put(int, int) IndexOutOfBoundsException",
        "boolean bid(int, int, int) IndexOutOfBoundsException IllegalArgumentException",
        "int sell(int) IndexOutOfBoundsException",
        "int offer(int, int) IndexOutOfBoundsException NoSuchElementException",
        "void lay(int, int, int) IllegalArgumentException",
        "int sort(int, int, int) IllegalArgumentException",
        "int unsort()",
        "int punch(boolean)",
        "int stand(int, int) IllegalArgumentException",
        "int even()",
        "int plan(int) IndexOutOfBoundsException",
        "int count(int)",
    };

    public static void main(String[] args) {
        Set<String> want = new TreeSet<>(Arrays.asList(FACE));
        Set<String> got = new TreeSet<>();
        Set<String> names = new TreeSet<>();
        for (Method method : CorkForest.class.getDeclaredMethods()) {
            if (!Modifier.isPrivate(method.getModifiers())) {
                got.add(told(method));
                names.add(method.getName());
            }
        }
        if (!got.equals(want)) {
            Check.fail("the face is " + got);
        }
        noOtherMethodBearsAFaceName(names);
        membersArePrivate();
        Check.finish();
    }

    private static String told(Method method) {
        StringBuilder text = new StringBuilder();
        text.append(method.getReturnType()).append(" ").append(method.getName()).append("(");
        for (int i = 0; i < method.getParameterCount(); i++) {
            text.append(i > 0 ? ", " : "").append(method.getParameterTypes()[i]);
        }
        text.append(")");
        for (Class<?> thrown : method.getExceptionTypes()) {
            text.append(" ").append(thrown.getSimpleName());
        }
        return text.toString();
    }

    private static void noOtherMethodBearsAFaceName(Set<String> names) {
        for (Class<?> inner : CorkForest.class.getDeclaredClasses()) {
            for (Method method : inner.getDeclaredMethods()) {
                if (names.contains(method.getName())) {
                    Check.fail(inner.getSimpleName() + "." + method.getName() + " bears a name of the face");
                }
            }
        }
        Set<String> seen = new TreeSet<>();
        for (Method method : CorkForest.class.getDeclaredMethods()) {
            if (!seen.add(method.getName()) && names.contains(method.getName())) {
                Check.fail(method.getName() + " stands twice");
            }
        }
    }

    private static void membersArePrivate() {
        Check.due("public and final", CorkForest.class.getModifiers(), Modifier.PUBLIC | Modifier.FINAL);
        Constructor<?>[] constructors = CorkForest.class.getDeclaredConstructors();
        Check.due("constructors", constructors.length, 1);
        Check.due("public constructor", constructors[0].getModifiers(), Modifier.PUBLIC);
        for (Field field : CorkForest.class.getDeclaredFields()) {
            boolean isPublic = Modifier.isPublic(field.getModifiers());
            if (isPublic != field.getName().equals("NONE") || !isPublic && !Modifier.isPrivate(field.getModifiers())) {
                Check.fail("field " + field);
            }
        }
        for (Class<?> inner : CorkForest.class.getDeclaredClasses()) {
            if (!Modifier.isStatic(inner.getModifiers())) {
                Check.fail(inner + " is not static");
            }
        }
    }
}
