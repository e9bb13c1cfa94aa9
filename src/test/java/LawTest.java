import java.util.Random;

/** Promises 2, 3, 6, 7 and 8: feed, end, law, fault, says. */
final class LawTest {
    private static final String[] WORDS = {"years", "girth", "height", "first", "rest", "thick"};
    private static final int[] MOST = {50, 600, 400, 400, 30, 3000};
    private static final int[] AT_FIRST = {9, 70, 250, 200, 5, 270};

    public static void main(String[] args) {
        bytesComeHighestFirst();
        textsThatAreRight();
        randomTextsAgainstAnotherReader();
        Check.finish();
    }

    private static void bytesComeHighestFirst() {
        CorkForest x = new CorkForest();
        x.feed(0x72657374, 0x2037203b, 0x67697274, 0x68203133, 0x20202020);
        Check.due("law of rest 7 ;girth 13", x.law(), 2);
        Check.due("rest", x.says(4), 7);
        Check.due("girth", x.says(1), 13);
        Check.due("the tape is used up", x.feed(0, 0, 0, 0, 0), 20);
    }

    private static void textsThatAreRight() {
        CorkForest x = new CorkForest();
        Check.law(x, "years9;rest5", 2);
        Check.law(x, "   years   12   ;   rest   6   ", 2);
        Check.due("years", x.says(0), 12);
        Check.due("rest", x.says(4), 6);
        Check.law(x, "years 0007", 1);
        Check.due("years with 4 digits", x.says(0), 7);
        Check.law(x, "years 1;years 2;years 3", 3);
        Check.due("the later one counts", x.says(0), 3);
        Check.law(x, "thick 1;first 2;height 3;rest 4;girth 5;years 6", 6);
        Check.says("of all six", x, 6, 5, 3, 2, 4, 1);
        Check.lawFails(x, "rest1;".repeat(66) + "rest", 400);
        Check.law(x, "rest1;".repeat(65) + "rest 0009 ", 66);
        Check.due("rest of a text of 400 bytes", x.says(4), 9);
    }

    private static void randomTextsAgainstAnotherReader() {
        Random random = new Random(7);
        String[] things = {"years", "girth", "height", "first", "rest", "thick", "yearsx", "res", ";", ";", ";", " ", " ",
            "  ", "0", "30", "31", "9", "400", "0050", "3000", "12345", "?", "A"};
        for (int run = 0; run < 20000; run++) {
            StringBuilder text = new StringBuilder();
            int clauses = 1 + random.nextInt(3);
            for (int i = 0; i < clauses; i++) {
                text.append(i > 0 ? ";" : "").append(WORDS[random.nextInt(6)]).append(" ").append(random.nextInt(45));
            }
            if (random.nextInt(3) > 0) {
                text.insert(random.nextInt(text.length() + 1), things[random.nextInt(things.length)]);
            }
            if (random.nextInt(3) == 0) {
                text.setLength(random.nextInt(text.length() + 1));
            }
            compare(text.toString());
        }
    }

    private static void compare(String text) {
        CorkForest x = new CorkForest();
        int[] want = AT_FIRST.clone();
        int read = otherReader(text, want);
        if (read > 0) {
            Check.law(x, text, read);
        } else {
            Check.lawFails(x, text, -read);
            want = AT_FIRST;
        }
        Check.says("behind '" + text + "'", x, want);
    }

    /** By cutting the text into things first: how many clauses, or the wrong byte below 0 or 0. */
    private static int otherReader(String text, int[] law) {
        java.util.regex.Matcher things = java.util.regex.Pattern.compile("[a-z]+|[0-9]+|[^ ]").matcher(text);
        int step = 0;
        int kind = -1;
        int clauses = 0;
        while (things.find()) {
            String thing = things.group();
            int number = thing.matches("[0-9]{1,4}") ? Integer.parseInt(thing) : -1;
            boolean fits;
            if (step == 0) {
                kind = java.util.Arrays.asList(WORDS).indexOf(thing);
                fits = kind >= 0;
            } else if (step == 1) {
                fits = number >= 0 && number <= MOST[kind];
                if (fits) {
                    law[kind] = number;
                    clauses++;
                }
            } else {
                fits = thing.equals(";");
            }
            if (!fits) {
                return -things.start();
            }
            step = (step + 1) % 3;
        }
        return step == 2 ? clauses : -text.length();
    }
}
