import java.lang.reflect.InvocationTargetException;
import java.lang.reflect.Method;
import java.util.ArrayList;
import java.util.Arrays;
import java.util.Comparator;
import java.util.List;
import java.util.Random;

/**
 * Runs of 512 calls with arguments of any kind: what is thrown is thrown by the class itself and told by the document
 * for that call, and a call that throws leaves everything as it was, but for the tape and the fault of a law.
 */
final class WildCallsTest {
    private static final int[] EDGES = {-1, 0, 1, 2, 5, 6, 7, 8, 10, 12, 13, 20, 40, 50, 60, 100, 200, 600, 1000, 3000,
        1000000, 1000001, Integer.MAX_VALUE, Integer.MIN_VALUE};
    private static final String[] TEXTS = {"years 0;thick 0", "girth 0;rest 1", "first 400;height 400", "years", "?"};

    public static void main(String[] args) throws Exception {
        List<Method> face = new ArrayList<>();
        for (Method method : CorkForest.class.getMethods()) {
            if (method.getDeclaringClass() == CorkForest.class) {
                face.add(method);
            }
        }
        face.sort(Comparator.comparing(Method::getName));
        for (int run = 0; run < 300; run++) {
            wildRun(face, new Random(run), run);
        }
        Check.finish();
    }

    private static void wildRun(List<Method> face, Random random, int run) throws Exception {
        CorkForest x = new CorkForest();
        boolean tame = random.nextBoolean();
        for (int call = 0; call < 512; call++) {
            if (random.nextInt(12) == 0) {
                x.end(0);
                Check.feedText(x, TEXTS[random.nextInt(TEXTS.length)]);
            }
            Method method = face.get(random.nextInt(face.size()));
            Object[] given = new Object[method.getParameterCount()];
            for (int i = 0; i < given.length; i++) {
                if (method.getParameterTypes()[i] == boolean.class) {
                    given[i] = random.nextBoolean();
                } else {
                    given[i] = tame ? random.nextInt(40) : EDGES[random.nextInt(EDGES.length)];
                }
            }
            String before = state(x);
            try {
                method.invoke(x, given);
            } catch (InvocationTargetException e) {
                String told = "run " + run + ": " + method.getName() + Arrays.toString(given);
                judge(told, method, e.getCause());
                if (!state(x).equals(before)) {
                    Check.fail(told + " threw and changed something");
                }
            }
        }
    }

    private static void judge(String told, Method method, Throwable thrown) {
        if (!Arrays.asList(method.getExceptionTypes()).contains(thrown.getClass())) {
            Check.fail(told + " threw " + thrown);
        } else if (!thrown.getStackTrace()[0].getClassName().startsWith("CorkForest")) {
            Check.fail(told + " did not throw by itself: " + thrown.getStackTrace()[0]);
        }
    }

    /** Everything that can be asked, but for the tape and the fault. */
    private static String state(CorkForest x) {
        StringBuilder text = new StringBuilder();
        for (int what = 0; what <= 10; what++) {
            text.append(x.count(what)).append(' ');
        }
        for (int what = 0; what < 6; what++) {
            text.append(x.says(what)).append(' ');
        }
        for (int tree = 0; tree < x.count(1); tree++) {
            for (int what = 0; what < 10; what++) {
                text.append(x.look(tree, what)).append(' ');
            }
        }
        for (int plank = 0; plank < x.count(2); plank++) {
            for (int what = 0; what < 6; what++) {
                text.append(x.plank(plank, what)).append(' ');
            }
        }
        for (int lot = 0; lot < x.count(3); lot++) {
            for (int what = 0; what < 5; what++) {
                text.append(x.offer(lot, what)).append(' ');
            }
        }
        text.append(x.punch(false)).append(' ').append(x.punch(true)).append(' ').append(x.even());
        for (int stand = 0; stand < x.count(9); stand++) {
            text.append(' ').append(x.plan(stand));
        }
        return text.toString();
    }
}
