/** What all tests share: they count answers that are not as due, and end with exit code 1 if there was one. */
final class Check {
    static final Class<IllegalArgumentException> ARGUMENT = IllegalArgumentException.class;
    static final Class<IndexOutOfBoundsException> INDEX = IndexOutOfBoundsException.class;
    static final Class<UnsupportedOperationException> UNSUPPORTED = UnsupportedOperationException.class;
    static final Class<java.util.NoSuchElementException> ELEMENT = java.util.NoSuchElementException.class;

    private static int wrong = 0;
    private static String sentence = "";

    private Check() {
    }

    /** What follows tests these words of the document; a wrong answer is told with them. */
    static void sentence(int promise, String words) {
        sentence = "promise " + promise + ", '" + words + "': ";
    }

    /** As sentence, of words that stand in the document's Terms. */
    static void term(String words) {
        sentence = "terms, '" + words + "': ";
    }

    static void due(String call, long got, long want) {
        if (got != want) {
            fail(call + " answered " + got + ", due is " + want);
        }
    }

    static void due(String call, boolean got, boolean want) {
        due(call, got ? 1 : 0, want ? 1 : 0);
    }

    static void same(String call, Object got, Object want) {
        if (!java.util.Objects.equals(got, want)) {
            fail(call + " answered " + got + ", due is " + want);
        }
    }

    /** What look tells of a tree, for 0, 1, 2 .. as far as wanted. */
    static void tree(CorkForest x, int tree, int... want) {
        each("look(" + tree + ", #)", what -> x.look(tree, what), want);
    }

    static void plank(CorkForest x, int plank, int... want) {
        each("plank(" + plank + ", #)", what -> x.plank(plank, what), want);
    }

    static void lot(CorkForest x, int lot, int... want) {
        each("offer(" + lot + ", #)", what -> x.offer(lot, what), want);
    }

    static void counts(CorkForest x, int... want) {
        each("count(#)", x::count, want);
    }

    static void says(String told, CorkForest x, int... want) {
        each("says(#) " + told, x::says, want);
    }

    private static void each(String call, java.util.function.IntUnaryOperator asked, int... want) {
        for (int what = 0; what < want.length; what++) {
            due(call.replace("#", "" + what), asked.applyAsInt(what), want[what]);
        }
    }

    static void thrown(String call, Class<?> want, Runnable body) {
        Object got = null;
        try {
            body.run();
        } catch (RuntimeException e) {
            got = toldOf(e);
        }
        if (got != want) {
            fail(call + " threw " + got + ", due is " + want);
        }
    }

    /** The exception's class if a throw of CorkForest's own has thrown it; else a text, which is never due. */
    static Object toldOf(RuntimeException e) {
        StackTraceElement[] trace = e.getStackTrace();
        String thrower = trace.length == 0 ? "the machine" : trace[0].getClassName();
        boolean own = thrower.equals("CorkForest") || thrower.startsWith("CorkForest$");
        boolean machines = e instanceof ArrayIndexOutOfBoundsException || e instanceof NullPointerException
            || e instanceof ClassCastException || e instanceof NegativeArraySizeException
            || e instanceof ArrayStoreException || e instanceof ArithmeticException;
        return own && !machines ? e.getClass() : e + " of " + thrower;
    }

    static void fail(String message) {
        wrong++;
        if (wrong <= 50) {
            System.out.println(sentence + message);
        }
    }

    static void finish() {
        if (wrong != 0) {
            System.out.println(wrong + " answers are not as due");
            System.exit(1);
        }
    }

    /** The text alone is on the tape afterwards; it must have been empty. */
    static void feedText(CorkForest x, String text) {
        for (int begin = 0; begin < text.length(); begin += 20) {
            int[] numbers = new int[5];
            for (int i = 0; i < 20; i++) {
                int sign = begin + i < text.length() ? text.charAt(begin + i) : 0;
                numbers[i / 4] = numbers[i / 4] << 8 | sign & 255;
            }
            due("feed of a text", x.feed(numbers[0], numbers[1], numbers[2], numbers[3], numbers[4]), begin + 20);
        }
        due("end of a text", x.end(text.length()), true);
    }

    /** Sets the law by a text that is right. */
    static void law(CorkForest x, String text, int clauses) {
        feedText(x, text);
        due("law of " + text, x.law(), clauses);
    }

    static void lawFails(CorkForest x, String text, int fault) {
        feedText(x, text);
        thrown("law of '" + text + "'", ARGUMENT, x::law);
        due("fault of '" + text + "'", x.fault(), fault);
    }
}
