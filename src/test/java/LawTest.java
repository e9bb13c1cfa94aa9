import java.util.Random;

/** Promises 2, 3, 6, 7 and 8: feed, end, law, fault, says. */
final class LawTest {
    private static final String[] WORDS = {"years", "girth", "height", "first", "rest", "thick"};
    private static final int[] MOST = {50, 600, 400, 400, 30, 3000};
    private static final int[] AT_FIRST = {9, 70, 250, 200, 5, 270};

    public static void main(String[] args) {
        tapeFillsUpTo400();
        tapeIsCut();
        bytesComeHighestFirst();
        lawAtFirst();
        everyClauseAndItsBounds();
        textsThatAreRight();
        textsThatAreWrong();
        wrongTextLeavesAllButTheTape();
        faultIsOfTheLatestLaw();
        randomTextsAgainstAnotherReader();
        Check.finish();
    }

    private static void tapeFillsUpTo400() {
        CorkForest x = new CorkForest();
        for (int i = 1; i <= 20; i++) {
            Check.due("feed " + i, x.feed(0, 0, 0, 0, 0), 20 * i);
        }
        Check.due("feed beyond 400", x.feed(0, 0, 0, 0, 0), -1);
        Check.due("nothing came", x.end(401), false);
        Check.due("400 are there", x.end(400), true);
        Check.due("cut to 381", x.end(381), true);
        Check.due("feed to 401", x.feed(0, 0, 0, 0, 0), -1);
        Check.due("cut to 380", x.end(380), true);
        Check.due("feed to 400", x.feed(0, 0, 0, 0, 0), 400);
    }

    private static void tapeIsCut() {
        CorkForest x = new CorkForest();
        Check.due("end(0) of nothing", x.end(0), true);
        Check.due("end(1) of nothing", x.end(1), false);
        Check.due("end(-1)", x.end(-1), false);
        Check.due("end(least)", x.end(Integer.MIN_VALUE), false);
        x.feed(1, 2, 3, 4, 5);
        Check.due("end(21)", x.end(21), false);
        Check.due("end(-1) keeps all", x.end(-1), false);
        Check.due("end(20)", x.end(20), true);
        Check.due("end(3)", x.end(3), true);
        Check.due("end(4)", x.end(4), false);
        Check.due("feed behind what is left", x.feed(0, 0, 0, 0, 0), 23);
    }

    private static void bytesComeHighestFirst() {
        CorkForest x = new CorkForest();
        x.feed(0x72657374, 0x2037203b, 0x67697274, 0x68203133, 0x20202020);
        Check.due("law of rest 7 ;girth 13", x.law(), 2);
        Check.due("rest", x.says(4), 7);
        Check.due("girth", x.says(1), 13);
        Check.due("the tape is used up", x.feed(0, 0, 0, 0, 0), 20);
    }

    private static void lawAtFirst() {
        CorkForest x = new CorkForest();
        Check.due("fault ahead of any law", x.fault(), -1);
        for (int what = 0; what < 6; what++) {
            Check.due("says at first " + what, x.says(what), AT_FIRST[what]);
        }
        Check.thrown("says(-1)", Check.ELEMENT, () -> x.says(-1));
        Check.thrown("says(6)", Check.ELEMENT, () -> x.says(6));
        Check.thrown("says(most)", Check.ELEMENT, () -> x.says(Integer.MAX_VALUE));
    }

    private static void everyClauseAndItsBounds() {
        for (int kind = 0; kind < 6; kind++) {
            CorkForest x = new CorkForest();
            Check.law(x, WORDS[kind] + " 0", 1);
            Check.due(WORDS[kind] + " 0", x.says(kind), 0);
            Check.law(x, WORDS[kind] + " " + MOST[kind], 1);
            Check.due(WORDS[kind] + " most", x.says(kind), MOST[kind]);
            Check.lawFails(x, WORDS[kind] + " " + (MOST[kind] + 1), WORDS[kind].length() + 1);
            for (int other = 0; other < 6; other++) {
                Check.due("says " + other, x.says(other), other == kind ? MOST[kind] : AT_FIRST[other]);
            }
        }
    }

    private static void textsThatAreRight() {
        CorkForest x = new CorkForest();
        Check.law(x, "years9;rest5", 2);
        Check.law(x, "   years   12   ;   rest   6   ", 2);
        Check.due("years", x.says(0), 12);
        Check.due("rest", x.says(4), 6);
        Check.law(x, "years 0007", 1);
        Check.due("years with 4 digits", x.says(0), 7);
        Check.law(x, "years 1;years 2;years 3", 3);
        Check.due("the later one counts", x.says(0), 3);
        Check.law(x, "thick 1;first 2;height 3;rest 4;girth 5;years 6", 6);
        int[] want = {6, 5, 3, 2, 4, 1};
        for (int what = 0; what < 6; what++) {
            Check.due("says " + what, x.says(what), want[what]);
        }
        Check.lawFails(x, "rest1;".repeat(66) + "rest", 400);
        Check.law(x, "rest1;".repeat(65) + "rest 0009 ", 66);
        Check.due("rest of a text of 400 bytes", x.says(4), 9);
    }

    private static void textsThatAreWrong() {
        CorkForest x = new CorkForest();
        Check.lawFails(x, "", 0);
        Check.lawFails(x, "   ", 3);
        Check.lawFails(x, ";", 0);
        Check.lawFails(x, "  9", 2);
        Check.lawFails(x, "years", 5);
        Check.lawFails(x, "years  ", 7);
        Check.lawFails(x, "years 9;", 8);
        Check.lawFails(x, "years 9 ;  ", 11);
        Check.lawFails(x, "years 9;;rest 5", 8);
        Check.lawFails(x, "years 9 rest 5", 8);
        Check.lawFails(x, "years 9rest 5", 7);
        Check.lawFails(x, "years 9 9", 8);
        Check.lawFails(x, "years ;", 6);
        Check.lawFails(x, "years years", 6);
        Check.lawFails(x, "years -1", 6);
        Check.lawFails(x, "years 00009", 6);
        Check.lawFails(x, "years 99999999999999999999", 6);
        Check.lawFails(x, "thick 4294967296", 6);
        Check.lawFails(x, "yea", 0);
        Check.lawFails(x, "rest 5; yea", 8);
        Check.lawFails(x, "yearsx 9", 0);
        Check.lawFails(x, "yearsX 9", 5);
        Check.lawFails(x, "Years 9", 0);
        Check.lawFails(x, "yearsgirth 9", 0);
        Check.lawFails(x, "\tyears 9", 0);
        Check.lawFails(x, "years 9\n", 7);
        Check.lawFails(x, "years\u00009", 5);
        Check.lawFails(x, "years 9\u0000", 7);
        Check.lawFails(x, "rest 5;" + (char) 255, 7);
        Check.lawFails(x, "years" + (char) 0xA0 + "9", 5);
        Check.lawFails(x, "years `", 6);
        Check.lawFails(x, "years /", 6);
        Check.lawFails(x, "years :", 6);
        Check.lawFails(x, "rest5{", 5);
    }

    private static void wrongTextLeavesAllButTheTape() {
        CorkForest x = new CorkForest();
        Check.lawFails(x, "years 1;girth 2;height 3;first 4;rest 5;thick 3001", 46);
        for (int what = 0; what < 6; what++) {
            Check.due("says " + what, x.says(what), AT_FIRST[what]);
        }
        Check.due("the tape is used up", x.feed(0, 0, 0, 0, 0), 20);
    }

    private static void faultIsOfTheLatestLaw() {
        CorkForest x = new CorkForest();
        Check.lawFails(x, "years x", 6);
        Check.due("fault stays", x.fault(), 6);
        Check.law(x, "years 1", 1);
        Check.due("fault is gone", x.fault(), -1);
    }

    private static void randomTextsAgainstAnotherReader() {
        Random random = new Random(7);
        String[] things = {"years", "girth", "height", "first", "rest", "thick", "yearsx", "res", ";", ";", ";", " ", " ",
            "  ", "0", "30", "31", "9", "400", "0050", "3000", "12345", "?", "A"};
        for (int run = 0; run < 20000; run++) {
            StringBuilder text = new StringBuilder();
            int clauses = 1 + random.nextInt(3);
            for (int i = 0; i < clauses; i++) {
                text.append(i > 0 ? ";" : "").append(WORDS[random.nextInt(6)]).append(" ").append(random.nextInt(45));
            }
            if (random.nextInt(3) > 0) {
                text.insert(random.nextInt(text.length() + 1), things[random.nextInt(things.length)]);
            }
            if (random.nextInt(3) == 0) {
                text.setLength(random.nextInt(text.length() + 1));
            }
            compare(text.toString());
        }
    }

    private static void compare(String text) {
        CorkForest x = new CorkForest();
        int[] want = AT_FIRST.clone();
        int read = otherReader(text, want);
        if (read > 0) {
            Check.law(x, text, read);
        } else {
            Check.lawFails(x, text, -read);
            want = AT_FIRST;
        }
        for (int what = 0; what < 6; what++) {
            Check.due("says " + what + " of '" + text + "'", x.says(what), want[what]);
        }
    }

    /** By cutting the text into things first: how many clauses, or the wrong byte below 0 or 0. */
    private static int otherReader(String text, int[] law) {
        java.util.regex.Matcher things = java.util.regex.Pattern.compile("[a-z]+|[0-9]+|[^ ]").matcher(text);
        int step = 0;
        int kind = -1;
        int clauses = 0;
        while (things.find()) {
            String thing = things.group();
            int number = thing.matches("[0-9]{1,4}") ? Integer.parseInt(thing) : -1;
            boolean fits;
            if (step == 0) {
                kind = java.util.Arrays.asList(WORDS).indexOf(thing);
                fits = kind >= 0;
            } else if (step == 1) {
                fits = number >= 0 && number <= MOST[kind];
                if (fits) {
                    law[kind] = number;
                    clauses++;
                }
            } else {
                fits = thing.equals(";");
            }
            if (!fits) {
                return -things.start();
            }
            step = (step + 1) % 3;
        }
        return step == 2 ? clauses : -text.length();
    }
}
