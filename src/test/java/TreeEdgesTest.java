/** The edges of promises 4, 5, 9, 11, 12 and 13, and of a year: tree, years, mark, wound, fire, look. */
final class TreeEdgesTest {
    private static final int[] NO_TREE_OF_NONE = {Made.LEAST, -1, 0, 1, 39, 40, Made.MOST};
    private static final int[] NO_TREE_OF_FIVE = {Made.LEAST, -1, 5, 6, 39, 40, Made.MOST};
    private static final int[] NO_TREE_OF_FORTY = {Made.LEAST, -1, 40, 41, Made.MOST};

    public static void main(String[] args) {
        girthOfANewTree();
        fortyTrees();
        theFirstTold();
        allElseOfANewTree();
        zeroToFiftyYears();
        zeroTo200Rain();
        yearsOfAnEmptyForest();
        yearsOfAFullForest();
        girthIsMore();
        girthIs600AtMost();
        neverStrippedIsAsIf20();
        barkIsTenAtLeast();
        growthIsRoundedDown();
        barkIs3000AtMost();
        allBarkIsSomewhere();
        markedOnce();
        restsUpToAYear();
        theLatestWound();
        burntBark();
        aFireEndsTheMark();
        whatALookTells();
        noSuchTree();
        Check.finish();
    }

    private static CorkForest oneTree(int girth) {
        CorkForest x = new CorkForest();
        x.tree(girth);
        return x;
    }

    private static void girthOfANewTree() {
        Check.sentence(4, "IllegalArgumentException: GIRTH is none (20 to 600 centimetres)");
        int[] none = {Made.LEAST, -20, -1, 0, 1, 19, 601, 1000, Made.MOST};
        Twins.refusedEach("tree(#)", Made::empty, CorkForest::tree, Check.ARGUMENT, none);
        Twins.refusedEach("tree(#)", Made::rich, CorkForest::tree, Check.ARGUMENT, none);
        int[] good = {20, 21, 599, 600};
        for (int girth : good) {
            CorkForest x = Made.rich();
            Check.due("tree(" + girth + ")", x.tree(girth), 5);
            Check.due("its girth", x.look(5, 0), girth);
        }
    }

    private static void fortyTrees() {
        Check.sentence(4, "UnsupportedOperationException: there are 40");
        CorkForest x = new CorkForest();
        for (int tree = 0; tree < 40; tree++) {
            Check.due("trees ahead of it", x.count(1), tree);
            Check.due("tree " + tree, x.tree(20 + tree), tree);
        }
        Check.due("40 trees", x.count(1), 40);
        int[] good = {20, 100, 600};
        Twins.refusedEach("a 41st tree(#)", Made::fullForest, CorkForest::tree, Check.UNSUPPORTED, good);
    }

    private static void theFirstTold() {
        Check.term("Of several exceptions the one told first is thrown");
        Twins.refusedEach("a 41st tree(#)", Made::fullForest, CorkForest::tree, Check.ARGUMENT, 19, 601);
        Twins.refused("look(5, 10)", Made::rich, x -> x.look(5, 10), Check.INDEX);
        Twins.refused("look(-1, -1)", Made::rich, x -> x.look(-1, -1), Check.INDEX);
    }

    private static void allElseOfANewTree() {
        Check.term("BARK (0 at first), STRIPPED (NONE), HIGH (0 at first), RESTS (NONE), MARKED or not");
        Check.tree(oneTree(20), 0, 20, 0, -1, 0, -1, 0, 0, 0, 0, 0);
        CorkForest x = Made.rich();
        x.tree(600);
        Check.tree(x, 5, 600, 0, -1, 0, -1, 0, 0, 0, 0, 0);
        Check.term("The YEAR is 0 at first");
        Check.due("years(0, 0)", new CorkForest().years(0, 0), 0);
    }

    private static void zeroToFiftyYears() {
        Check.sentence(5, "IllegalArgumentException: not 0 to 50");
        int[] none = {Made.LEAST, -50, -1, 51, 100, Made.MOST};
        Twins.refusedEach("years(#, 100)", Made::empty, (x, n) -> x.years(n, 100), Check.ARGUMENT, none);
        Twins.refusedEach("years(#, 100)", Made::rich, (x, n) -> x.years(n, 100), Check.ARGUMENT, none);
        int[] good = {0, 1, 49, 50};
        for (int n : good) {
            Check.due("years(" + n + ", 0)", Made.rich().years(n, 0), 35 + n);
            CorkForest x = oneTree(20);
            x.years(n, 0);
            Check.tree(x, 0, 20 + n, 5 * n, -1, 0, -1, 0, 5 * n, 0, 0, 0);
        }
        Twins.refused("no years", Made::rich, x -> x.years(0, 200), 35);
    }

    private static void zeroTo200Rain() {
        Check.sentence(5, "IllegalArgumentException: RAIN is none (0 to 200)");
        int[] none = {Made.LEAST, -100, -1, 201, 300, Made.MOST};
        Twins.refusedEach("years(1, #)", Made::empty, (x, rain) -> x.years(1, rain), Check.ARGUMENT, none);
        Twins.refusedEach("years(1, #)", Made::rich, (x, rain) -> x.years(1, rain), Check.ARGUMENT, none);
        Twins.refusedEach("years(0, #)", Made::rich, (x, rain) -> x.years(0, rain), Check.ARGUMENT, none);
        Twins.refusedEach("years(51, #)", Made::rich, (x, rain) -> x.years(51, rain), Check.ARGUMENT, none);
        int[] good = {0, 1, 199, 200};
        for (int rain : good) {
            CorkForest x = oneTree(20);
            Check.due("years(1, " + rain + ")", x.years(1, rain), 1);
            Check.tree(x, 0, 21 + rain / 100, 10 * (50 + rain) / 100);
        }
    }

    private static void yearsOfAnEmptyForest() {
        Check.sentence(5, "So many YEARS: the YEAR (of no TREES)");
        CorkForest x = new CorkForest();
        Check.due("years(50, 200)", x.years(50, 200), 50);
        Check.due("years(0, 0)", x.years(0, 0), 50);
        Check.due("years(1, 0)", x.years(1, 0), 51);
        x.tree(20);
        Check.tree(x, 0, 20, 0, -1);
    }

    private static void yearsOfAFullForest() {
        Check.term("the YEAR is one more; then each TREE (of 40)");
        CorkForest x = Made.fullForest();
        Check.due("years(2, 199)", x.years(2, 199), 3);
        for (int tree = 0; tree < 40; tree++) {
            Check.tree(x, tree, 36 + tree, 15 + 48, -1, 0, -1, tree % 2, 15 + 48, 0, 0, 0);
        }
    }

    private static void girthIsMore() {
        Check.term("GIRTH is 1 more, and RAIN by 100, rounded down");
        int[][] rainAndMore = {{0, 1}, {1, 1}, {99, 1}, {100, 2}, {101, 2}, {199, 2}, {200, 3}};
        for (int[] row : rainAndMore) {
            CorkForest x = oneTree(300);
            x.years(1, row[0]);
            Check.due("girth with rain " + row[0], x.look(0, 0), 300 + row[1]);
        }
    }

    private static void girthIs600AtMost() {
        Check.term("600 at most");
        int[][] girthRainThen = {{598, 0, 599}, {599, 0, 600}, {600, 0, 600}, {597, 100, 599}, {598, 100, 600},
            {599, 100, 600}, {600, 100, 600}, {596, 200, 599}, {597, 200, 600}, {598, 200, 600}, {600, 200, 600}};
        for (int[] row : girthRainThen) {
            CorkForest x = oneTree(row[0]);
            x.years(1, row[1]);
            Check.due("girth " + row[0] + " with rain " + row[1], x.look(0, 0), row[2]);
        }
        CorkForest x = oneTree(20);
        for (int i = 0; i < 12; i++) {
            x.years(50, 200);
        }
        Check.due("girth in year 600", x.look(0, 0), 600);
    }

    private static void neverStrippedIsAsIf20() {
        Check.term("the YEARS since STRIPPED (NONE: as if it were 20)");
        CorkForest x = oneTree(100);
        x.years(1, 50);
        Check.tree(x, 0, 101, 10, -1);
        x.years(1, 50);
        Check.tree(x, 0, 102, 20, -1);
        CorkForest burntAtOnce = oneTree(100);
        burntAtOnce.fire(0);
        Check.tree(burntAtOnce, 0, 100, 0, 0);
        burntAtOnce.years(1, 50);
        Check.tree(burntAtOnce, 0, 101, 38, 0);
    }

    private static void barkIsTenAtLeast() {
        Check.term("40 less 2 AGE, 10 at least (AGE as it is in the new YEAR)");
        CorkForest x = oneTree(100);
        x.years(7, 50);
        x.fire(0);
        int bark = 0;
        for (int age = 1; age <= 30; age++) {
            x.years(1, 50);
            bark += age == 14 ? 12 : age >= 15 ? 10 : 40 - 2 * age;
            Check.due("bark at age " + age, x.look(0, 1), bark);
        }
        x.years(50, 50);
        Check.due("bark at age 80", x.look(0, 1), bark + 500);
    }

    private static void growthIsRoundedDown() {
        Check.term("times 50 and RAIN, by 100, rounded down");
        int[][] rainAndGrowth = {{0, 5}, {9, 5}, {10, 6}, {49, 9}, {50, 10}, {99, 14}, {100, 15}, {199, 24}, {200, 25}};
        for (int[] row : rainAndGrowth) {
            CorkForest x = oneTree(100);
            x.years(1, row[0]);
            Check.due("growth with rain " + row[0], x.look(0, 1), row[1]);
            x.years(3, row[0]);
            Check.due("rounded for each year", x.look(0, 1), 4 * row[1]);
        }
        int[][] atAgeOne = {{0, 19}, {1, 19}, {2, 19}, {3, 20}, {200, 95}};
        for (int[] row : atAgeOne) {
            CorkForest x = oneTree(100);
            x.fire(0);
            x.years(1, row[0]);
            Check.due("growth of age 1 with rain " + row[0], x.look(0, 1), row[1]);
        }
    }

    /** A tree of 2995 tenths of a millimetre. */
    private static CorkForest thickTree() {
        CorkForest x = oneTree(100);
        x.years(50, 200);
        x.years(50, 200);
        x.years(19, 200);
        x.years(1, 150);
        Check.due("bark", x.look(0, 1), 2995);
        return x;
    }

    private static void barkIs3000AtMost() {
        Check.term("3000 at most: what would be more is SHED");
        CorkForest exact = thickTree();
        exact.years(1, 0);
        Check.tree(exact, 0, 460, 3000, -1, 0, -1, 0, 3000, 0, 0, 0);
        exact.years(1, 0);
        Check.tree(exact, 0, 461, 3000, -1, 0, -1, 0, 3005, 0, 0, 5);
        exact.years(2, 200);
        Check.tree(exact, 0, 467, 3000, -1, 0, -1, 0, 3055, 0, 0, 55);
        CorkForest more = thickTree();
        more.years(1, 10);
        Check.tree(more, 0, 460, 3000, -1, 0, -1, 0, 3001, 0, 0, 1);
    }

    private static void allBarkIsSomewhere() {
        Check.sentence(13, "6 all BARK that grew on it, 7 in PLANKS, 8 burnt, 9 SHED");
        CorkForest x = thickTree();
        x.years(2, 0);
        Check.due("fire", x.fire(0), 3000);
        x.years(9, 50);
        x.mark(0);
        Check.due("strip", x.strip(0, 1), 0);
        x.years(1, 50);
        Check.tree(x, 0, 471, 38, 131, 1, -1, 0, 3005 + 270 + 38, 270, 3000, 5);
        Check.due("fire again", x.fire(0), 38);
        Check.tree(x, 0, 471, 0, 132, 0, -1, 0, 3005 + 270 + 38, 270, 3038, 5);
        x.years(9, 50);
        x.mark(0);
        Check.due("strip again", x.strip(0, 1), 1);
        Check.tree(x, 0, 480, 0, 141, 1, -1, 0, 3005 + 270 + 38 + 270, 540, 3038, 5);
    }

    private static void markedOnce() {
        Check.sentence(9, "A TREE is MARKED: whether it was not");
        CorkForest x = Made.rich();
        Check.due("mark(0)", x.mark(0), true);
        Check.due("marked", x.look(0, 5), 1);
        Twins.refused("mark(1) again", Made::rich, y -> y.mark(1), false);
        Twins.refused("mark(4) again", Made::rich, y -> y.mark(4), false);
        CorkForest full = Made.fullForest();
        Check.due("mark(38)", full.mark(38), true);
        Check.due("mark(39) again", full.mark(39), false);
        full.fire(39);
        Check.due("mark(39) behind a fire", full.mark(39), true);
    }

    private static void restsUpToAYear() {
        Check.sentence(11, "A WOUND: up to which YEAR it RESTS");
        int[] rests = {0, 1, 29, 30};
        for (int rest : rests) {
            CorkForest x = oneTree(100);
            Check.law(x, "rest " + rest, 1);
            Check.due("wound in year 0 with rest " + rest, x.wound(0), rest);
            Check.tree(x, 0, 100, 0, -1, 0, rest, 0);
            x.years(50, 0);
            Check.due("wound in year 50 with rest " + rest, x.wound(0), 50 + rest);
            Check.due("it rests up to", x.look(0, 4), 50 + rest);
        }
        CorkForest atFirst = oneTree(100);
        Check.due("wound with the rest at first", atFirst.wound(0), 5);
    }

    private static void theLatestWound() {
        Check.term("A WOUND: the TREE RESTS up to this YEAR and REST");
        CorkForest x = oneTree(100);
        x.mark(0);
        x.wound(0);
        Check.tree(x, 0, 100, 0, -1, 0, 5, 1);
        Check.due("again in the same year", x.wound(0), 5);
        Check.law(x, "rest 9", 1);
        Check.due("a law changes no rest", x.look(0, 4), 5);
        Check.due("by another law", x.wound(0), 9);
        x.years(5, 0);
        Check.law(x, "rest 0", 1);
        Check.due("by a law of less rest", x.wound(0), 5);
        x.years(1, 0);
        Check.due("a rest that has ended stays told", x.look(0, 4), 5);
        Check.due("and ends again in its year", x.wound(0), 6);
    }

    private static void burntBark() {
        Check.sentence(12, "A FIRE: how much BARK was burnt");
        CorkForest x = oneTree(100);
        Check.due("fire of no bark", x.fire(0), 0);
        Check.tree(x, 0, 100, 0, 0, 0, -1, 0, 0, 0, 0, 0);
        Check.due("fire again", x.fire(0), 0);
        CorkForest thick = thickTree();
        thick.years(1, 0);
        Check.due("fire of the most bark", thick.fire(0), 3000);
        Check.due("burnt", thick.look(0, 8), 3000);
        Check.due("nothing is left", thick.fire(0), 0);
        Check.due("burnt still", thick.look(0, 8), 3000);
    }

    private static void aFireEndsTheMark() {
        Check.term("A FIRE: its BARK is burnt (0), STRIPPED is this YEAR, HIGH 0, it is not MARKED");
        CorkForest x = oneTree(100);
        x.years(18, 100);
        x.mark(0);
        Check.due("strip", x.strip(0, 200), 0);
        x.mark(0);
        x.wound(0);
        x.years(1, 100);
        Check.tree(x, 0, 138, 57, 18, 200, 23, 1, 327, 270, 0, 0);
        Check.due("fire", x.fire(0), 57);
        Check.tree(x, 0, 138, 0, 19, 0, 23, 0, 327, 270, 57, 0);
    }

    private static void whatALookTells() {
        Check.sentence(13, "NoSuchElementException: another what");
        int[] other = {Made.LEAST, -2, -1, 10, 11, Made.MOST};
        Twins.refusedEach("look(0, #)", Made::rich, (x, what) -> x.look(0, what), Check.ELEMENT, other);
        Twins.refusedEach("look(39, #)", Made::fullForest, (x, what) -> x.look(39, what), Check.ELEMENT, other);
        Check.tree(Made.rich(), 0, 165, 170, 30, 200, -1, 0, 620, 450, 0, 0);
        Check.tree(Made.rich(), 2, 600, 170, 30, 1000, 42, 0, 620, 450, 0, 0);
        Check.tree(Made.rich(), 3, 115, 74, 33, 0, -1, 0, 554, 0, 480, 0);
        Check.tree(Made.rich(), 4, 125, 500, -1, 0, -1, 1, 500, 0, 0, 0);
    }

    private static void noSuchTree() {
        Check.term("IndexOutOfBoundsException: there is no such TREE");
        refusedOfEach(Made::empty, NO_TREE_OF_NONE);
        refusedOfEach(Made::rich, NO_TREE_OF_FIVE);
        refusedOfEach(Made::fullForest, NO_TREE_OF_FORTY);
        CorkForest x = Made.fullForest();
        Check.due("wound(39)", x.wound(39), 6);
        Check.due("fire(39)", x.fire(39), 15);
        Check.due("strip(39, 1)", x.strip(39, 1), -1);
        Check.due("wound(0)", x.wound(0), 6);
        Check.due("fire(0)", x.fire(0), 15);
        Check.due("mark(0)", x.mark(0), true);
    }

    private static void refusedOfEach(Twins.Maker made, int[] none) {
        Twins.refusedEach("mark(#)", made, CorkForest::mark, Check.INDEX, none);
        Twins.refusedEach("strip(#, 1)", made, (x, tree) -> x.strip(tree, 1), Check.INDEX, none);
        Twins.refusedEach("wound(#)", made, CorkForest::wound, Check.INDEX, none);
        Twins.refusedEach("fire(#)", made, CorkForest::fire, Check.INDEX, none);
        Twins.refusedEach("look(#, 0)", made, (x, tree) -> x.look(tree, 0), Check.INDEX, none);
    }
}
