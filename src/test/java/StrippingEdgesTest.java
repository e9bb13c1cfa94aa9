/** The edges of promises 10 and 14, and of what is against a stripping: strip, plank. */
final class StrippingEdgesTest {
    public static void main(String[] args) {
        heightsThatAreNone();
        theFirstTold();
        notMarked();
        itRests();
        tooFewYears();
        neverTooFewYears();
        girthBelowTheLaw();
        barkBelowThick();
        tooHigh();
        heightIsRoundedDown();
        firstForATreeNeverStripped();
        theFirstThatHolds();
        twoHundredPlanks();
        withNothingAgainst();
        whatAPlankTells();
        noSuchPlank();
        Check.finish();
    }

    /** By the lenient law with these words behind it: one marked tree. */
    private static CorkForest marked(String law, int girth) {
        CorkForest x = Made.lenient();
        if (!law.isEmpty()) {
            Check.law(x, law, 1);
        }
        x.tree(girth);
        x.mark(0);
        return x;
    }

    private static void heightsThatAreNone() {
        Check.sentence(10, "IllegalArgumentException: h is none (1 to 3000)");
        int[] none = {Made.LEAST, -1, 0, 3001, 3002, Made.MOST};
        Twins.refusedEach("strip(1, #)", Made::rich, (x, h) -> x.strip(1, h), Check.ARGUMENT, none);
        Twins.refusedEach("strip(0, #)", Made::rich, (x, h) -> x.strip(0, h), Check.ARGUMENT, none);
        Check.due("strip(0, 1)", marked("", 600).strip(0, 1), 0);
        Check.due("strip(0, 2)", marked("", 600).strip(0, 2), 0);
        Check.due("strip(0, 2999)", marked("", 600).strip(0, 2999), -6);
        Check.due("strip(0, 3000)", marked("", 600).strip(0, 3000), -6);
    }

    private static void theFirstTold() {
        Check.term("Of several exceptions the one told first is thrown");
        Twins.refused("strip(5, 0)", Made::rich, x -> x.strip(5, 0), Check.INDEX);
        Twins.refused("strip(-1, 3001)", Made::rich, x -> x.strip(-1, 3001), Check.INDEX);
        Twins.refused("plank(3, 6)", Made::rich, x -> x.plank(3, 6), Check.INDEX);
        Twins.refused("plank(-1, -1)", Made::rich, x -> x.plank(-1, -1), Check.INDEX);
    }

    private static void notMarked() {
        Check.term("1 it is not MARKED");
        Twins.refused("strip(0, 1)", Made::rich, x -> x.strip(0, 1), -1);
        Twins.refused("strip(3, 1)", Made::rich, x -> x.strip(3, 1), -1);
        CorkForest x = marked("", 100);
        Check.due("marked", x.strip(0, 1), 0);
        Check.due("not marked any more", x.strip(0, 1), -1);
        x.mark(0);
        x.fire(0);
        Check.due("not marked behind a fire", x.strip(0, 1), -1);
    }

    private static CorkForest resting(int rest, int yearsBehindTheWound) {
        CorkForest x = marked("rest " + rest, 100);
        x.years(3, 0);
        x.wound(0);
        x.years(yearsBehindTheWound, 0);
        return x;
    }

    private static void itRests() {
        Check.term("2 it RESTS (the YEAR is not behind that)");
        int[] rests = {0, 1, 5, 30};
        for (int rest : rests) {
            Twins.refused("strip in the wound's year", () -> resting(rest, 0), x -> x.strip(0, 1), -2);
            Twins.refused("strip in the last year of rest " + rest, () -> resting(rest, rest), x -> x.strip(0, 1), -2);
            Check.due("strip a year behind rest " + rest, resting(rest, rest + 1).strip(0, 1), 0);
        }
        CorkForest inYearZero = marked("rest 0", 100);
        inYearZero.wound(0);
        Check.due("strip in year 0 of a rest up to 0", inYearZero.strip(0, 1), -2);
        inYearZero.years(1, 0);
        Check.due("strip in year 1 of a rest up to 0", inYearZero.strip(0, 1), 0);
    }

    private static CorkForest stripped(int years, int since) {
        CorkForest x = marked("years " + years, 100);
        x.years(2, 0);
        x.strip(0, 1);
        x.mark(0);
        x.years(since, 0);
        return x;
    }

    private static void tooFewYears() {
        Check.term("3 fewer than YEARS since STRIPPED");
        int[] lawYears = {1, 9, 49, 50};
        for (int years : lawYears) {
            Twins.refused("strip a year before " + years, () -> stripped(years, years - 1), x -> x.strip(0, 1), -3);
            Twins.refused("strip in the same year", () -> stripped(years, 0), x -> x.strip(0, 1), -3);
            Check.due("strip behind " + years + " years", stripped(years, years).strip(0, 1), 1);
        }
        Check.due("strip in the same year with years 0", stripped(0, 0).strip(0, 1), 1);
        CorkForest burnt = marked("years 9", 100);
        burnt.fire(0);
        burnt.mark(0);
        burnt.years(8, 0);
        Check.due("strip 8 years behind a fire of year 0", burnt.strip(0, 1), -3);
        burnt.years(1, 0);
        Check.due("strip 9 years behind it", burnt.strip(0, 1), 0);
    }

    private static void neverTooFewYears() {
        Check.term("STRIPPED (NONE: never too few)");
        Check.due("strip in year 0 with years 50", marked("years 50", 100).strip(0, 1), 0);
        CorkForest x = marked("years 50", 100);
        x.years(1, 0);
        Check.due("strip in year 1 with years 50", x.strip(0, 1), 0);
    }

    private static void girthBelowTheLaw() {
        Check.term("4 its GIRTH is below the LAW's");
        Twins.refused("strip of girth 69", () -> marked("girth 70", 69), x -> x.strip(0, 1), -4);
        Check.due("strip of girth 70", marked("girth 70", 70).strip(0, 1), 0);
        Check.due("strip of girth 71", marked("girth 70", 71).strip(0, 1), 0);
        Twins.refused("strip of girth 599", () -> marked("girth 600", 599), x -> x.strip(0, 1), -4);
        Check.due("strip of girth 600", marked("girth 600", 600).strip(0, 1), 0);
        Check.due("strip of girth 20 with girth 0", marked("girth 0", 20).strip(0, 1), 0);
        Check.due("strip of girth 20 with girth 20", marked("girth 20", 20).strip(0, 1), 0);
        Check.due("strip of girth 20 with girth 21", marked("girth 21", 20).strip(0, 1), -4);
    }

    /** A marked tree with 2999 or 3000 tenths of a millimetre. */
    private static CorkForest thickTree(int thick, int lastRain) {
        CorkForest x = marked("thick " + thick, 100);
        x.years(50, 200);
        x.years(50, 200);
        x.years(19, 200);
        x.years(1, lastRain);
        return x;
    }

    private static void barkBelowThick() {
        Check.term("5 its BARK is below THICK");
        Twins.refused("strip of bark 2999", () -> thickTree(3000, 190), x -> x.strip(0, 1), -5);
        Check.due("strip of bark 3000", thickTree(3000, 200).strip(0, 1), 0);
        Check.due("strip of bark 2999 with thick 2999", thickTree(2999, 190).strip(0, 1), 0);
        Twins.refused("strip of bark 0", () -> marked("thick 1", 100), x -> x.strip(0, 1), -5);
        Check.due("strip of bark 0 with thick 0", marked("thick 0", 100).strip(0, 1), 0);
        CorkForest x = marked("thick 270", 100);
        x.years(17, 100);
        x.years(1, 90);
        Check.due("strip of bark 269", x.strip(0, 1), -5);
        CorkForest enough = marked("thick 270", 100);
        enough.years(18, 100);
        Check.due("strip of bark 270", enough.strip(0, 1), 0);
    }

    private static CorkForest burnt(String law, int girth) {
        CorkForest x = marked(law, girth);
        x.fire(0);
        x.mark(0);
        return x;
    }

    private static void tooHigh() {
        Check.term("6 h is above GIRTH times HEIGHT (never stripped: FIRST) by 100");
        Twins.refused("strip(0, 2401)", () -> burnt("height 400", 600), x -> x.strip(0, 2401), -6);
        Check.due("strip(0, 2400)", burnt("height 400", 600).strip(0, 2400), 0);
        Twins.refused("strip(0, 1)", () -> burnt("height 0", 600), x -> x.strip(0, 1), -6);
        Twins.refused("first: strip(0, 2401)", () -> marked("first 400", 600), x -> x.strip(0, 2401), -6);
        Check.due("first: strip(0, 2400)", marked("first 400", 600).strip(0, 2400), 0);
        Twins.refused("first: strip(0, 1)", () -> marked("first 0", 600), x -> x.strip(0, 1), -6);
    }

    private static void heightIsRoundedDown() {
        Check.term("by 100, rounded down");
        int[][] girthShareHeight = {{99, 1, 0}, {100, 1, 1}, {199, 1, 1}, {200, 1, 2}, {101, 250, 252}, {102, 250, 255},
            {20, 4, 0}, {20, 5, 1}, {333, 333, 1108}, {599, 399, 2390}};
        for (int[] row : girthShareHeight) {
            String told = "girth " + row[0] + " by " + row[1];
            if (row[2] > 0) {
                Check.due(told + ", first", marked("first " + row[1], row[0]).strip(0, row[2]), 0);
                Check.due(told + ", height", burnt("height " + row[1], row[0]).strip(0, row[2]), 0);
            }
            Check.due(told + ", above first", marked("first " + row[1], row[0]).strip(0, row[2] + 1), -6);
            Check.due(told + ", above height", burnt("height " + row[1], row[0]).strip(0, row[2] + 1), -6);
        }
    }

    private static void firstForATreeNeverStripped() {
        Check.term("FIRST (likewise, for a TREE that was never stripped)");
        CorkForest x = marked("first 100", 100);
        Check.due("above first", x.strip(0, 101), -6);
        Check.due("first", x.strip(0, 100), 0);
        x.mark(0);
        Check.due("above height", x.strip(0, 401), -6);
        Check.due("height", x.strip(0, 400), 1);
        Check.term("A FIRE: it counts as stripped");
        Check.due("height behind a fire", burnt("first 100", 100).strip(0, 400), 0);
        Check.due("above height behind a fire", burnt("first 100", 100).strip(0, 401), -6);
    }

    /** Everything is against it at first; one thing after the other is taken away. */
    private static void theFirstThatHolds() {
        Check.term("what is AGAINST it, the first that holds");
        CorkForest x = new CorkForest();
        Check.law(x, "years 50;girth 600;height 0;first 0;thick 3000", 5);
        x.tree(20);
        x.fire(0);
        x.wound(0);
        Check.due("not marked", x.strip(0, 3000), -1);
        x.mark(0);
        Check.due("it rests", x.strip(0, 3000), -2);
        x.years(6, 0);
        Check.due("too few years", x.strip(0, 3000), -3);
        Check.law(x, "years 6", 1);
        Check.due("girth below", x.strip(0, 3000), -4);
        Check.law(x, "girth 26", 1);
        Check.due("bark below", x.strip(0, 3000), -5);
        Check.law(x, "thick " + x.look(0, 1), 1);
        Check.due("too high", x.strip(0, 3000), -6);
        Check.law(x, "height 400", 1);
        Check.due("too high still", x.strip(0, 105), -6);
        Check.due("nothing", x.strip(0, 104), 0);
    }

    private static void twoHundredPlanks() {
        Check.term("a PLANK (at most 200, numbered from 0 on). (With 200 PLANKS: 7.)");
        CorkForest x = Made.lenient();
        x.tree(100);
        for (int plank = 0; plank < 200; plank++) {
            x.mark(0);
            Check.due("plank " + plank, x.strip(0, 400), plank);
        }
        Check.due("200 planks", x.count(2), 200);
        Twins.refused("a 201st plank", Made::fullPlanks, y -> y.strip(0, 1), -7);
        Twins.refused("a 201st plank too high", Made::fullPlanks, y -> y.strip(0, 249), -6);
        Twins.refused("a 201st plank as high as can be", Made::fullPlanks, y -> y.strip(0, 248), -7);
        Check.due("not marked with 200 planks", x.strip(0, 1), -1);
    }

    private static void withNothingAgainst() {
        Check.term("BARK is 0, STRIPPED this YEAR, HIGH h, the TREE is not MARKED any more");
        CorkForest x = marked("", 100);
        x.years(4, 50);
        x.wound(0);
        x.years(6, 50);
        Check.due("strip", x.strip(0, 440), 0);
        Check.tree(x, 0, 110, 0, 10, 440, 9, 0, 100, 100, 0, 0);
        CorkForest inYearZero = marked("", 20);
        Check.due("strip in year 0", inYearZero.strip(0, 1), 0);
        Check.due("stripped in year 0", inYearZero.look(0, 2), 0);
    }

    private static void whatAPlankTells() {
        Check.sentence(14, "what 0 TREE, 1 YEAR, 2 high, 3 wide, 4 thick, 5 its LOT (NONE). NoSuchElementException");
        Check.plank(Made.rich(), 0, 0, 30, 200, 160, 450, 0);
        Check.plank(Made.rich(), 1, 2, 30, 1000, 600, 450, 1);
        Check.plank(Made.rich(), 2, 1, 33, 83, 83, 480, -1);
        Check.plank(Made.fullPlanks(), 199, 0, 0, 200, 60, 0, -1);
        int[] other = {Made.LEAST, -2, -1, 6, 7, Made.MOST};
        Twins.refusedEach("plank(0, #)", Made::rich, (x, what) -> x.plank(0, what), Check.ELEMENT, other);
        Twins.refusedEach("plank(199, #)", Made::fullPlanks, (x, what) -> x.plank(199, what), Check.ELEMENT, -1, 6);
        CorkForest x = marked("", 20);
        x.strip(0, 1);
        Check.plank(x, 0, 0, 0, 1, 20, 0, -1);
        CorkForest thick = thickTree(3000, 200);
        thick.strip(0, 1840);
        Check.plank(thick, 0, 0, 120, 1840, 460, 3000, -1);
    }

    private static void noSuchPlank() {
        Check.term("IndexOutOfBoundsException: there is no such PLANK");
        int[] ofNone = {Made.LEAST, -1, 0, 1, Made.MOST};
        int[] ofThree = {Made.LEAST, -1, 3, 4, 199, 200, Made.MOST};
        int[] ofAll = {-1, 200, 201};
        Twins.refusedEach("plank(#, 0)", Made::empty, (x, plank) -> x.plank(plank, 0), Check.INDEX, ofNone);
        Twins.refusedEach("plank(#, 5)", Made::rich, (x, plank) -> x.plank(plank, 5), Check.INDEX, ofThree);
        Twins.refusedEach("plank(#, 4)", Made::fullPlanks, (x, plank) -> x.plank(plank, 4), Check.INDEX, ofAll);
    }
}
