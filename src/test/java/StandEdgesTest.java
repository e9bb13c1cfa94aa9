/** The edges of promises 24 to 26: stand, even, plan. */
final class StandEdgesTest {
    public static void main(String[] args) {
        yieldsThatAreNone();
        yearsThatAreNone();
        sixStands();
        withoutStands();
        theLeastThatTheFullestYearBears();
        theMostThatAYearBears();
        theLeastYears();
        noSuchStand();
        askingChangesNothing();
        Check.finish();
    }

    private static void planned(String told, CorkForest x, int even, int... years) {
        Check.due("even of " + told, x.even(), even);
        for (int stand = 0; stand < years.length; stand++) {
            Check.due("plan(" + stand + ") of " + told, x.plan(stand), years[stand]);
        }
    }

    private static CorkForest stands(int[]... heavyAndYears) {
        CorkForest x = new CorkForest();
        for (int[] row : heavyAndYears) {
            x.stand(row[0], row[1]);
        }
        return x;
    }

    private static void yieldsThatAreNone() {
        Check.sentence(24, "IllegalArgumentException: a number is none (a YIELD, 0 to 1000000)");
        int[] none = {Made.LEAST, -2, -1, 1000001, 1000002, Made.MOST};
        Twins.refusedEach("stand(#, 1)", Made::empty, (x, heavy) -> x.stand(heavy, 1), Check.ARGUMENT, none);
        Twins.refusedEach("stand(#, 4)", Made::rich, (x, heavy) -> x.stand(heavy, 4), Check.ARGUMENT, none);
        Twins.refusedEach("stand(#, 6)", Made::fullStands, (x, heavy) -> x.stand(heavy, 6), Check.ARGUMENT, none);
        Twins.refusedEach("stand(#, 1)", Made::crowdedStands, (x, heavy) -> x.stand(heavy, 1), Check.ARGUMENT, none);
        int[] good = {0, 1, 999999, 1000000};
        for (int heavy : good) {
            CorkForest x = new CorkForest();
            Check.due("stand(" + heavy + ", 1)", x.stand(heavy, 1), 0);
            planned("yield " + heavy, x, heavy, 0);
        }
    }

    private static void yearsThatAreNone() {
        Check.sentence(24, "IllegalArgumentException: a number is none (years 0 to 8, as bits, not none)");
        int[] none = {Made.LEAST, -512, -1, 0, 512, 513, 1023, 1024, Made.MOST};
        Twins.refusedEach("stand(1, #)", Made::empty, (x, years) -> x.stand(1, years), Check.ARGUMENT, none);
        Twins.refusedEach("stand(1, #)", Made::rich, (x, years) -> x.stand(1, years), Check.ARGUMENT, none);
        Twins.refusedEach("stand(1, #)", Made::fullStands, (x, years) -> x.stand(1, years), Check.ARGUMENT, none);
        Twins.refusedEach("stand(1, #)", Made::crowdedStands, (x, years) -> x.stand(1, years), Check.ARGUMENT, none);
        for (int years = 1; years <= 511; years++) {
            CorkForest x = new CorkForest();
            Check.due("stand(1, " + years + ")", x.stand(1, years), 0);
            planned("years " + years, x, 1, Integer.numberOfTrailingZeros(years));
        }
    }

    private static void sixStands() {
        Check.sentence(24, "its number; NONE, and it does not come, if there are 6");
        CorkForest x = new CorkForest();
        for (int stand = 0; stand < 6; stand++) {
            Check.due("stands ahead of it", x.count(9), stand);
            Check.due("stand " + stand, x.stand(10, 511), stand);
            Check.due("plan of the last", x.plan(stand), stand);
        }
        Check.due("6 stands", x.count(9), 6);
        Twins.refused("a 7th stand", Made::fullStands, y -> y.stand(1000000, 511), -1);
        Twins.refused("a 7th stand of the least", Made::fullStands, y -> y.stand(0, 1), -1);
        Twins.refused("a 7th stand of the last year", Made::fullStands, y -> y.stand(1000000, 256), -1);
        Twins.refused("a 7th stand in a full year", Made::crowdedStands, y -> y.stand(1, 256), -1);
        Twins.refused("a 7th stand in all years", Made::crowdedStands, y -> y.stand(10, 511), -1);
    }

    private static void withoutStands() {
        Check.sentence(25, "EVEN; 0 without STANDS");
        Check.due("even", new CorkForest().even(), 0);
        CorkForest x = new CorkForest();
        Check.thrown("a wrong stand", Check.ARGUMENT, () -> x.stand(5, 512));
        Check.due("even behind it", x.even(), 0);
        Check.due("the first stand", x.stand(5, 2), 0);
        planned("one", x, 5, 1);
    }

    private static void theLeastThatTheFullestYearBears() {
        Check.term("EVEN: the least, of all PLANS, that the year that BEARS most BEARS");
        planned("two in one year", stands(new int[][] {{5, 1}, {6, 1}}), 11, 0, 0);
        planned("two in two years", stands(new int[][] {{5, 1}, {6, 3}}), 6, 0, 1);
        planned("the greedy way is worse", stands(new int[][] {{5, 3}, {5, 3}, {4, 3}, {3, 3}, {3, 3}}), 10, 0, 0, 1, 1, 1);
        planned("nothing", stands(new int[][] {{0, 511}, {0, 1}, {0, 256}}), 0, 0, 0, 8);
        planned("something and nothing", stands(new int[][] {{4, 1}, {0, 257}, {0, 256}}), 4, 0, 0, 8);
        CorkForest x = Made.fullStands();
        planned("all apart", x, 15, 0, 1, 2, 3, 4, 5);
    }

    private static void theMostThatAYearBears() {
        Check.term("what a year BEARS: the sum of the YIELDS of those");
        CorkForest last = new CorkForest();
        for (int stand = 0; stand < 6; stand++) {
            last.stand(1000000, 256);
            planned("all in the last year", last, 1000000 * (stand + 1), 8);
        }
        CorkForest apart = new CorkForest();
        for (int stand = 0; stand < 6; stand++) {
            apart.stand(1000000, 511);
        }
        planned("the most in any year", apart, 1000000, 0, 1, 2, 3, 4, 5);
    }

    private static void theLeastYears() {
        Check.term("the PLAN: of all that reach it that in which STAND 0 has the least year, then 1, and so on");
        planned("the first has the least", stands(new int[][] {{5, 3}, {5, 3}}), 5, 0, 1);
        planned("the first gives way", stands(new int[][] {{5, 3}, {5, 1}}), 5, 1, 0);
        planned("a small one stays below", stands(new int[][] {{1, 6}, {9, 511}, {8, 7}}), 9, 1, 0, 1);
        planned("beside the fullest", stands(new int[][] {{2, 511}, {3, 511}, {5, 256}}), 5, 0, 0, 8);
        planned("the second before the third", stands(new int[][] {{6, 1}, {6, 6}, {6, 6}}), 6, 0, 1, 2);
        planned("room is not left for nothing", stands(new int[][] {{3, 511}, {3, 511}, {6, 511}}), 6, 0, 0, 1);
        planned("an even that cannot be less", stands(new int[][] {{9, 1}, {1, 3}, {1, 3}}), 9, 0, 1, 1);
        planned("with years to spare", stands(new int[][] {{2, 508}, {9, 4}, {9, 8}, {9, 16}}), 9, 5, 2, 3, 4);
    }

    private static void noSuchStand() {
        Check.sentence(26, "IndexOutOfBoundsException: there is no such STAND");
        int[] ofNone = {Made.LEAST, -1, 0, 1, 5, 6, Made.MOST};
        int[] ofThree = {Made.LEAST, -1, 3, 4, 5, 6, Made.MOST};
        int[] ofSix = {Made.LEAST, -1, 6, 7, Made.MOST};
        Twins.refusedEach("plan(#)", Made::empty, CorkForest::plan, Check.INDEX, ofNone);
        Twins.refusedEach("plan(#)", Made::rich, CorkForest::plan, Check.INDEX, ofThree);
        Twins.refusedEach("plan(#)", Made::fullStands, CorkForest::plan, Check.INDEX, ofSix);
        Twins.refusedEach("plan(#)", Made::crowdedStands, CorkForest::plan, Check.INDEX, ofSix);
        Check.due("plan(0) of three", Made.rich().plan(0), 0);
        Check.due("plan(2) of three", Made.rich().plan(2), 2);
        Check.due("plan(5) of six", Made.fullStands().plan(5), 5);
    }

    private static void askingChangesNothing() {
        Check.sentence(26, "The year of a STAND in the PLAN");
        Twins.refused("even", Made::rich, CorkForest::even, 7);
        Twins.refused("even", Made::fullStands, CorkForest::even, 15);
        Twins.refused("plan", Made::rich, x -> x.plan(1), 1);
        Twins.refused("plan", Made::fullStands, x -> x.plan(0), 0);
        Twins.refused("even", Made::crowdedStands, CorkForest::even, 75);
        Twins.refused("plan", Made::crowdedStands, x -> x.plan(0), 8);
    }
}
