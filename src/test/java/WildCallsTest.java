import java.lang.reflect.InvocationTargetException;
import java.lang.reflect.Method;
import java.util.ArrayList;
import java.util.Arrays;
import java.util.Comparator;
import java.util.List;
import java.util.Random;
import java.util.Set;

/**
 * Runs of 512 calls with arguments of any kind: what is thrown is thrown by the class itself and told by the document
 * for that call. A second forest hears only those calls that were not refused, and must answer alike all along: so a
 * refused call has changed nothing that the later calls could show.
 */
final class WildCallsTest {
    private static final int[] EDGES = {-1, 0, 1, 2, 5, 6, 7, 8, 10, 12, 13, 20, 40, 50, 60, 100, 200, 600, 1000, 3000,
        1000000, 1000001, Integer.MAX_VALUE, Integer.MIN_VALUE};
    private static final String[] TEXTS = {"years 0;thick 0", "girth 0;rest 1", "first 400;height 400", "years", "?"};
    /** With these a refused call answers NONE or false, or less what is against it, and nothing happens. */
    private static final Set<String> REFUSING = Set.of("feed", "end", "strip", "put", "bid", "sell", "sort", "stand");

    private final Random random;
    private final String name;
    private final int kind;
    private final CorkForest hearsAll = new CorkForest();
    private final CorkForest hearsSome = new CorkForest();
    private boolean latestLawWrong = false;

    private WildCallsTest(int run) {
        random = new Random(run);
        name = "run " + run + ": ";
        kind = run % 3;
    }

    public static void main(String[] args) throws Exception {
        List<Method> face = new ArrayList<>();
        for (Method method : CorkForest.class.getMethods()) {
            if (method.getDeclaringClass() == CorkForest.class) {
                face.add(method);
            }
        }
        face.sort(Comparator.comparing(Method::getName));
        for (int run = 0; run < 2000; run++) {
            new WildCallsTest(run).runOver(face);
        }
        Check.finish();
    }

    private void runOver(List<Method> face) throws Exception {
        // A text takes three calls, and the call itself one.
        for (int calls = 0; calls + 4 <= 512; calls++) {
            if (random.nextInt(12) == 0) {
                calls += 3;
                layText(TEXTS[random.nextInt(TEXTS.length)]);
            }
            Method method = face.get(random.nextInt(face.size()));
            call(method, argumentsFor(method));
        }
    }

    private void layText(String text) {
        hearsAll.end(0);
        hearsSome.end(0);
        Check.feedText(hearsAll, text);
        Check.feedText(hearsSome, text);
    }

    private Object[] argumentsFor(Method method) {
        Object[] given = new Object[method.getParameterCount()];
        for (int i = 0; i < given.length; i++) {
            if (method.getParameterTypes()[i] == boolean.class) {
                given[i] = random.nextBoolean();
            } else {
                given[i] = number();
            }
        }
        return given;
    }

    /** By the kind of the run: numbers of edges, small ones, or such that many calls come to something. */
    private int number() {
        if (kind == 0) {
            return EDGES[random.nextInt(EDGES.length)];
        }
        if (kind == 1) {
            return random.nextInt(40);
        }
        return random.nextInt(3) > 0 ? random.nextInt(4) : 20 + random.nextInt(180);
    }

    private void call(Method method, Object[] given) throws Exception {
        String told = name + method.getName() + Arrays.toString(given);
        Object answer;
        try {
            answer = method.invoke(hearsAll, given);
        } catch (InvocationTargetException e) {
            judge(told, method, e.getCause());
            if (method.getName().equals("law")) {
                latestLawWrong = true;
                hearsSome.end(0);
            }
            return;
        }
        latestLawWrong &= !method.getName().equals("law");
        boolean refused = Boolean.FALSE.equals(answer) || answer instanceof Integer && (Integer) answer < 0;
        boolean ofWrongLaw = method.getName().equals("fault") && latestLawWrong;
        if (!ofWrongLaw && !(refused && REFUSING.contains(method.getName()))) {
            Check.same(told, answer, method.invoke(hearsSome, given));
        }
    }

    private static void judge(String told, Method method, Throwable thrown) {
        Object got = thrown instanceof RuntimeException ? Check.toldOf((RuntimeException) thrown) : thrown;
        if (!Arrays.asList(method.getExceptionTypes()).contains(got)) {
            Check.fail(told + " threw " + got);
        }
    }
}
