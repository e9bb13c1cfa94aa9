/** The edges of promises 6, 7 and 8, and of the law's text: law, fault, says. */
final class LawEdgesTest {
    private static final String[] WORDS = {"years", "girth", "height", "first", "rest", "thick"};
    private static final int[] GREATEST = {50, 600, 400, 400, 30, 3000};
    private static final int[] AT_FIRST = {9, 70, 250, 200, 5, 270};

    public static void main(String[] args) {
        numbersOfEachClause();
        oneToFourDigits();
        digitsAlone();
        wordsGoOnFromAToZ();
        wordsThatAreNone();
        blanksBetweenAll();
        blanksAre32Alone();
        whatIsNotToldStays();
        theLaterClauseCounts();
        whatCannotStandThere();
        moreMustCome();
        theFirstOfSeveralFaults();
        tapeIsUsedUp();
        theEmptyTape();
        theFullTape();
        howManyClauses();
        wrongTextChangesNothing();
        faultOfTheLatestLaw();
        whatTheLawSays();
        Check.finish();
    }

    private static void right(String text, int clauses, int... want) {
        CorkForest x = new CorkForest();
        Check.law(x, text, clauses);
        Check.says("behind '" + text + "'", x, want);
        Check.due("fault behind '" + text + "'", x.fault(), -1);
    }

    private static void wrong(String text, int fault) {
        CorkForest x = new CorkForest();
        Check.lawFails(x, text, fault);
        Check.says("behind '" + text + "'", x, AT_FIRST);
    }

    private static void numbersOfEachClause() {
        for (int kind = 0; kind < 6; kind++) {
            String word = WORDS[kind];
            int most = GREATEST[kind];
            Check.term(word + " (0 to " + most + "; at first " + AT_FIRST[kind] + ")");
            Check.due("at first", new CorkForest().says(kind), AT_FIRST[kind]);
            int[] good = {0, 1, most - 1, most};
            for (int number : good) {
                int[] want = AT_FIRST.clone();
                want[kind] = number;
                right(word + " " + number, 1, want);
            }
            wrong(word + " " + (most + 1), word.length() + 1);
            wrong(word + " 9999", word.length() + 1);
            wrong(word + " -1", word.length() + 1);
        }
    }

    private static void oneToFourDigits() {
        Check.term("A NUMBER: 1 to 4 digits");
        wrong("rest ;", 5);
        right("rest 7", 1, 9, 70, 250, 200, 7, 270);
        right("rest 0007", 1, 9, 70, 250, 200, 7, 270);
        right("rest 0000", 1, 9, 70, 250, 200, 0, 270);
        right("thick 2999", 1, 9, 70, 250, 200, 5, 2999);
        Check.term("a NUMBER of more digits");
        wrong("rest 00007", 5);
        wrong("rest 00000", 5);
        wrong("thick 10000", 6);
        wrong("thick 30000", 6);
        wrong("thick 4294967296", 6);
        wrong("thick 18446744073709551616", 6);
        wrong("rest " + "0".repeat(395), 5);
    }

    private static void digitsAlone() {
        Check.term("digits");
        for (char digit = '0'; digit <= '9'; digit++) {
            right("rest" + digit, 1, 9, 70, 250, 200, digit - '0', 270);
        }
        wrong("rest/", 4);
        wrong("rest:", 4);
        wrong("rest 1/", 6);
        wrong("rest 1:", 6);
        wrong("rest +1", 5);
        wrong("rest 1.5", 6);
        wrong("rest 0x1", 6);
    }

    private static void wordsGoOnFromAToZ() {
        Check.term("Words are as long as a to z go on");
        wrong("resta 5", 0);
        wrong("restz 5", 0);
        wrong("arest 5", 0);
        wrong("zrest 5", 0);
        wrong("restrest 5", 0);
        wrong("rest`5", 4);
        wrong("rest{5", 4);
        wrong("rest5a", 5);
        wrong("`rest 5", 0);
        wrong("{rest 5", 0);
        wrong("restA5", 4);
        wrong("restZ5", 4);
        right("rest5", 1, AT_FIRST);
        right("rest5;rest6", 2, 9, 70, 250, 200, 6, 270);
    }

    private static void wordsThatAreNone() {
        Check.term("a word that is none");
        for (String word : WORDS) {
            wrong(word.substring(0, word.length() - 1) + " 1", 0);
            wrong(word.substring(1) + " 1", 0);
            wrong(word + "s 1", 0);
            for (int place = 0; place < word.length(); place++) {
                wrong(word.substring(0, place) + "q" + word.substring(place + 1) + " 1", 0);
            }
            wrong(word.toUpperCase() + " 1", 0);
            wrong("rest 6; " + word.substring(0, 3), 8);
            wrong(word.substring(0, 1) + " " + word.substring(1) + " 1", 0);
        }
    }

    private static void blanksBetweenAll() {
        Check.term("between all there may be blanks (32), also ahead and behind");
        String[] things = {"rest", "6", ";", "girth", "71"};
        for (int gap = 0; gap <= things.length; gap++) {
            for (int blanks = 0; blanks <= 3; blanks++) {
                right(with(things, gap, " ".repeat(blanks)), 2, 9, 71, 250, 200, 6, 270);
            }
        }
        right("  rest  6  ;  girth  71  ", 2, 9, 71, 250, 200, 6, 270);
        wrong("re st 6", 0);
        wrong("rest 1 2", 7);
    }

    /** The things beside one another, and one thing more ahead of thing number gap (or behind all). */
    private static String with(String[] things, int gap, String more) {
        StringBuilder text = new StringBuilder();
        for (int i = 0; i <= things.length; i++) {
            text.append(i == gap ? more : "").append(i < things.length ? things[i] : "");
        }
        return text.toString();
    }

    private static void blanksAre32Alone() {
        Check.term("blanks (32)");
        int[] none = {0, 9, 10, 13, 31, 33, 127, 128, 160, 255};
        String[] things = {"rest", "6", ";", "girth", "71"};
        int[] begins = {0, 4, 5, 6, 11, 13};
        for (int gap = 0; gap < begins.length; gap++) {
            for (int sign : none) {
                wrong(with(things, gap, "" + (char) sign), begins[gap]);
            }
        }
    }

    private static void whatIsNotToldStays() {
        Check.term("What a text does not tell stays as it is");
        CorkForest x = new CorkForest();
        Check.law(x, "thick 1", 1);
        Check.says("behind thick", x, 9, 70, 250, 200, 5, 1);
        Check.law(x, "years 2;girth 3", 2);
        Check.says("behind years and girth", x, 2, 3, 250, 200, 5, 1);
        Check.law(x, "height 4;first 6;rest 7", 3);
        Check.says("behind height, first and rest", x, 2, 3, 4, 6, 7, 1);
        Check.law(x, "girth 0", 1);
        Check.says("behind girth 0", x, 2, 0, 4, 6, 7, 1);
    }

    private static void theLaterClauseCounts() {
        Check.term("of two CLAUSES alike the later one counts");
        for (int kind = 0; kind < 6; kind++) {
            int[] want = AT_FIRST.clone();
            want[kind] = 11;
            right(WORDS[kind] + " 12;" + WORDS[kind] + " 11", 2, want);
            right(WORDS[kind] + " 11;" + WORDS[kind] + " 11", 2, want);
        }
        right("rest 1;girth 2;rest 0;girth 0;rest 3", 5, 9, 0, 250, 200, 3, 270);
        wrong("rest 31;rest 5", 5);
        wrong("rest 5;rest 31", 12);
    }

    private static void whatCannotStandThere() {
        Check.term("the begin of the first thing that cannot stand there");
        wrong(";", 0);
        wrong("  ;rest 5", 2);
        wrong("5", 0);
        wrong("12345", 0);
        wrong("rest rest 5", 5);
        wrong("rest 5 rest 5", 7);
        wrong("rest 5rest 5", 6);
        wrong("rest 5 5", 7);
        wrong("rest 5;;", 7);
        wrong("rest 5; ;rest 5", 8);
        wrong("rest 5;5", 7);
        wrong("rest ; 5", 5);
        wrong("rest;5", 4);
        wrong("rest 5,girth 70", 6);
        wrong("(rest 5)", 0);
    }

    private static void moreMustCome() {
        Check.term("the text's length, if more must come");
        wrong("", 0);
        wrong(" ", 1);
        wrong(" ".repeat(400), 400);
        wrong("rest", 4);
        wrong("rest   ", 7);
        wrong("rest 5;", 7);
        wrong("rest 5 ;   ", 11);
        wrong("rest 5;girth", 12);
        wrong("rest 5;girth ", 13);
    }

    private static void theFirstOfSeveralFaults() {
        Check.term("The first wrong byte");
        wrong("rest 31;girth 601;x", 5);
        wrong("rest 5;girth 601;x", 13);
        wrong("rest 5;girth 600;x;?", 17);
        wrong("rest 99999 ?", 5);
        wrong("?rest 31", 0);
        wrong("rest 5;x;", 7);
    }

    private static void tapeIsUsedUp() {
        Check.sentence(6, "Uses the TAPE up");
        CorkForest x = new CorkForest();
        Check.law(x, "rest 6", 1);
        Check.due("none is left", x.end(1), false);
        Check.thrown("law of nothing", Check.ARGUMENT, x::law);
        Check.due("its fault", x.fault(), 0);
        Check.lawFails(x, "rest 31", 5);
        Check.due("none is left of a wrong one", x.end(1), false);
        Check.due("feed begins again", x.feed(0, 0, 0, 0, 0), 20);
    }

    private static void theEmptyTape() {
        Check.sentence(6, "IllegalArgumentException: the text is wrong (the empty tape)");
        Twins.refusedLaw("", Made::empty, 0);
        Twins.refusedLaw("", Made::rich, 0);
        CorkForest x = Made.rich();
        x.end(0);
        Check.thrown("law of a tape cut to none", Check.ARGUMENT, x::law);
    }

    private static void theFullTape() {
        Check.sentence(6, "it is the LAW (the full tape)");
        String most = "rest 0;".repeat(56);
        right(most + "rest 27 ", 57, 9, 70, 250, 200, 27, 270);
        right(most + "rest0027", 57, 9, 70, 250, 200, 27, 270);
        right("rest 27" + " ".repeat(393), 1, 9, 70, 250, 200, 27, 270);
        right(" ".repeat(393) + "rest 27", 1, 9, 70, 250, 200, 27, 270);
        wrong(most + "rest 27?", 399);
        wrong(most + "rest 2;r", 399);
        wrong(most + "rest 27;", 400);
        wrong(most + "rest    ", 400);
        wrong(most + "rest2712", 396);
        wrong("z".repeat(400), 0);
    }

    private static void howManyClauses() {
        Check.sentence(6, "how many CLAUSES");
        for (int clauses = 1; clauses <= 66; clauses++) {
            right("rest6;".repeat(clauses - 1) + "rest6", clauses, 9, 70, 250, 200, 6, 270);
        }
    }

    private static void wrongTextChangesNothing() {
        Check.sentence(6, "IllegalArgumentException: the text is wrong: all stays");
        String all = "years 1;girth 2;height 3;first 4;rest 6;thick 8";
        Twins.refusedLaw(all + ";", Made::rich, 48);
        Twins.refusedLaw(all + "?", Made::rich, 47);
        Twins.refusedLaw(all + ";thick 3001", Made::rich, 54);
        Twins.refusedLaw("years 51;" + all, Made::rich, 6);
        Twins.refusedLaw(all + ";thick", Made::empty, 53);
        Twins.refusedLaw(all + "; x", Made::fullForest, 49);
    }

    private static void faultOfTheLatestLaw() {
        Check.sentence(7, "The first wrong byte of the latest law(); NONE without one, and ahead of any");
        CorkForest x = new CorkForest();
        Check.due("ahead of any", x.fault(), -1);
        Check.feedText(x, "rest ?");
        Check.due("ahead of the law of a wrong text", x.fault(), -1);
        Check.thrown("law", Check.ARGUMENT, x::law);
        Check.due("behind it", x.fault(), 5);
        Check.due("asked again", x.fault(), 5);
        Check.feedText(x, "rest 6");
        Check.due("behind a feed and an end", x.fault(), 5);
        Check.due("law", x.law(), 1);
        Check.due("behind a right one", x.fault(), -1);
        Check.lawFails(x, "?", 0);
        Check.lawFails(x, "rest 5;rest 31", 12);
        Check.lawFails(x, "rest 31", 5);
        Check.law(x, "rest 30", 1);
        Check.due("behind a right one again", x.fault(), -1);
    }

    private static void whatTheLawSays() {
        Check.sentence(8, "what 0 YEARS, 1 GIRTH, 2 HEIGHT, 3 FIRST, 4 REST, 5 THICK. NoSuchElementException: another what");
        CorkForest x = new CorkForest();
        Check.law(x, "thick 5;rest 4;first 3;height 2;girth 1;years 0", 6);
        Check.says("in its order", x, 0, 1, 2, 3, 4, 5);
        int[] other = {Made.LEAST, -2, -1, 6, 7, Made.MOST};
        Twins.refusedEach("says(#)", Made::empty, CorkForest::says, Check.ELEMENT, other);
        Twins.refusedEach("says(#)", Made::rich, CorkForest::says, Check.ELEMENT, other);
    }
}
