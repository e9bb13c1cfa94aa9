/** Promises 4, 5 and 9 to 14: tree, years, mark, strip, wound, fire, look, plank. */
final class TreesTest {
    public static void main(String[] args) {
        treesAndTheirBounds();
        aNewTree();
        yearsAndTheirBounds();
        growthByRainAndAge();
        girthEndsAt600();
        barkIsShedBeyond3000();
        markOnce();
        wrongStrips();
        whatIsAgainstInItsOrder();
        yearsSinceStripped();
        heightOfTheLaw();
        aPlankComes();
        planksEndAt200();
        woundsRest();
        fires();
        wrongLooks();
        Check.finish();
    }

    private static void see(CorkForest x, int tree, int... want) {
        for (int what = 0; what < want.length; what++) {
            Check.due("look(" + tree + ", " + what + ")", x.look(tree, what), want[what]);
        }
    }

    private static void treesAndTheirBounds() {
        CorkForest x = new CorkForest();
        Check.thrown("tree(19)", Check.ARGUMENT, () -> x.tree(19));
        Check.thrown("tree(601)", Check.ARGUMENT, () -> x.tree(601));
        Check.thrown("tree(least)", Check.ARGUMENT, () -> x.tree(Integer.MIN_VALUE));
        Check.due("tree(20)", x.tree(20), 0);
        Check.due("tree(600)", x.tree(600), 1);
        for (int i = 2; i < 40; i++) {
            Check.due("tree " + i, x.tree(20 + i), i);
        }
        Check.thrown("a 41st tree", Check.UNSUPPORTED, () -> x.tree(20));
        Check.thrown("a wrong 41st tree", Check.ARGUMENT, () -> x.tree(19));
        Check.due("trees", x.count(1), 40);
        Check.due("girth of the last", x.look(39, 0), 59);
    }

    private static void aNewTree() {
        CorkForest x = new CorkForest();
        x.tree(33);
        see(x, 0, 33, 0, -1, 0, -1, 0, 0, 0, 0, 0);
    }

    private static void yearsAndTheirBounds() {
        CorkForest x = new CorkForest();
        x.tree(20);
        Check.thrown("years(-1, 0)", Check.ARGUMENT, () -> x.years(-1, 0));
        Check.thrown("years(51, 0)", Check.ARGUMENT, () -> x.years(51, 0));
        Check.thrown("years(1, -1)", Check.ARGUMENT, () -> x.years(1, -1));
        Check.thrown("years(1, 201)", Check.ARGUMENT, () -> x.years(1, 201));
        Check.thrown("years(0, 201)", Check.ARGUMENT, () -> x.years(0, 201));
        Check.due("years(0, 200)", x.years(0, 200), 0);
        see(x, 0, 20, 0);
        Check.due("years(50, 0)", x.years(50, 0), 50);
        Check.due("years(1, 0)", x.years(1, 0), 51);
        see(x, 0, 71, 51 * 5);
    }

    private static void growthByRainAndAge() {
        CorkForest x = new CorkForest();
        x.tree(100);
        x.years(1, 99);
        see(x, 0, 101, 14);
        x.years(1, 199);
        see(x, 0, 103, 14 + 24);
        x.years(1, 200);
        see(x, 0, 106, 14 + 24 + 25);
        x.fire(0);
        int bark = 0;
        for (int age = 1; age <= 20; age++) {
            x.years(1, 33);
            int base = age < 15 ? 40 - 2 * age : 10;
            bark += base * 83 / 100;
            Check.due("bark at age " + age, x.look(0, 1), bark);
        }
        Check.due("all that grew", x.look(0, 6), 63 + bark);
    }

    private static void girthEndsAt600() {
        CorkForest x = new CorkForest();
        x.tree(598);
        x.tree(599);
        x.years(1, 150);
        see(x, 0, 600);
        see(x, 1, 600);
        x.years(1, 200);
        see(x, 0, 600);
    }

    private static void barkIsShedBeyond3000() {
        CorkForest x = new CorkForest();
        x.tree(20);
        x.years(50, 200);
        x.years(50, 200);
        x.years(20, 200);
        see(x, 0, 380, 3000, -1, 0, -1, 0, 3000, 0, 0, 0);
        x.years(1, 7);
        see(x, 0, 381, 3000, -1, 0, -1, 0, 3005, 0, 0, 5);
        Check.due("fire", x.fire(0), 3000);
        see(x, 0, 381, 0, 121, 0, -1, 0, 3005, 0, 3000, 5);
    }

    private static void markOnce() {
        CorkForest x = new CorkForest();
        Check.thrown("mark(0) without trees", Check.INDEX, () -> x.mark(0));
        x.tree(20);
        x.tree(20);
        Check.due("mark(1)", x.mark(1), true);
        Check.due("mark(1) again", x.mark(1), false);
        Check.due("tree 0 is not marked", x.look(0, 5), 0);
        Check.due("tree 1 is marked", x.look(1, 5), 1);
        Check.thrown("mark(-1)", Check.INDEX, () -> x.mark(-1));
        Check.thrown("mark(2)", Check.INDEX, () -> x.mark(2));
    }

    private static void wrongStrips() {
        CorkForest x = new CorkForest();
        x.tree(100);
        Check.thrown("strip(0, 0)", Check.ARGUMENT, () -> x.strip(0, 0));
        Check.thrown("strip(0, 3001)", Check.ARGUMENT, () -> x.strip(0, 3001));
        Check.thrown("strip(1, 0)", Check.INDEX, () -> x.strip(1, 0));
        Check.thrown("strip(-1, 1)", Check.INDEX, () -> x.strip(-1, 1));
        Check.due("strip(0, 3000)", x.strip(0, 3000), -1);
    }

    /** Everything is against it at first; one thing after the other is taken away. */
    private static void whatIsAgainstInItsOrder() {
        CorkForest x = new CorkForest();
        x.tree(20);
        x.fire(0);
        x.wound(0);
        Check.due("not marked", x.strip(0, 3000), -1);
        x.mark(0);
        Check.due("rests", x.strip(0, 3000), -2);
        x.years(5, 0);
        Check.due("rests up to year 5", x.strip(0, 3000), -2);
        x.years(1, 0);
        Check.due("too few years", x.strip(0, 3000), -3);
        x.years(2, 0);
        Check.due("too few years by one", x.strip(0, 3000), -3);
        x.years(1, 0);
        Check.due("girth 29 below 70", x.strip(0, 3000), -4);
        Check.law(x, "girth 30", 1);
        Check.due("girth 29 below 30", x.strip(0, 3000), -4);
        Check.law(x, "girth 29", 1);
        int bark = x.look(0, 1);
        Check.due("bark below 270", x.strip(0, 3000), -5);
        Check.law(x, "thick " + (bark + 1), 1);
        Check.due("bark below by one", x.strip(0, 3000), -5);
        Check.law(x, "thick " + bark, 1);
        Check.due("too high", x.strip(0, 3000), -6);
        Check.due("too high by one", x.strip(0, 73), -6);
        Check.due("nothing came", x.count(2), 0);
        Check.due("still marked", x.look(0, 5), 1);
        Check.due("nothing against it", x.strip(0, 72), 0);
    }

    private static void yearsSinceStripped() {
        CorkForest x = new CorkForest();
        x.tree(100);
        x.mark(0);
        Check.law(x, "years 50;thick 0", 2);
        Check.due("never too few without a stripping", x.strip(0, 1), 0);
        x.mark(0);
        Check.due("the same year", x.strip(0, 1), -3);
        Check.law(x, "years 0", 1);
        Check.due("the same year by law", x.strip(0, 1), 1);
        Check.due("a plank without bark", x.plank(1, 4), 0);
    }

    private static void heightOfTheLaw() {
        CorkForest x = new CorkForest();
        x.tree(599);
        Check.law(x, "years 0;thick 0;first 33;height 400", 4);
        x.mark(0);
        Check.due("above first", x.strip(0, 198), -6);
        Check.due("first", x.strip(0, 197), 0);
        x.mark(0);
        Check.due("above height", x.strip(0, 2397), -6);
        Check.due("height", x.strip(0, 2396), 1);
        x.tree(100);
        x.fire(1);
        x.mark(1);
        Check.due("a fire counts as stripped", x.strip(1, 400), 2);
        Check.law(x, "first 0", 1);
        x.tree(600);
        x.mark(2);
        Check.due("first 0", x.strip(2, 1), -6);
    }

    private static void aPlankComes() {
        CorkForest x = new CorkForest();
        Check.thrown("plank(0, 0) without planks", Check.INDEX, () -> x.plank(0, 0));
        x.tree(20);
        x.tree(90);
        x.years(30, 50);
        x.mark(1);
        Check.due("strip", x.strip(1, 240), 0);
        int[] want = {1, 30, 240, 120, 300, -1};
        for (int what = 0; what < want.length; what++) {
            Check.due("plank(0, " + what + ")", x.plank(0, what), want[what]);
        }
        see(x, 1, 120, 0, 30, 240, -1, 0, 300, 300, 0, 0);
        see(x, 0, 50, 300, -1, 0, -1, 0, 300, 0, 0, 0);
        Check.thrown("plank(0, 6)", Check.ELEMENT, () -> x.plank(0, 6));
        Check.thrown("plank(0, -1)", Check.ELEMENT, () -> x.plank(0, -1));
        Check.thrown("plank(1, 6)", Check.INDEX, () -> x.plank(1, 6));
        Check.thrown("plank(-1, 0)", Check.INDEX, () -> x.plank(-1, 0));
        x.years(8, 50);
        x.mark(1);
        Check.due("a year too early", x.strip(1, 300), -3);
        x.years(1, 50);
        Check.due("strip again", x.strip(1, 300), 1);
        see(x, 1, 129, 0, 39, 300, -1, 0, 570, 570, 0, 0);
        Check.due("the first plank stays", x.plank(0, 4), 300);
    }

    private static void planksEndAt200() {
        CorkForest x = new CorkForest();
        x.tree(100);
        Check.law(x, "years 0;thick 0", 2);
        for (int i = 0; i < 200; i++) {
            x.mark(0);
            Check.due("plank " + i, x.strip(0, 1 + i), i);
        }
        Check.due("not marked comes first", x.strip(0, 1), -1);
        x.mark(0);
        Check.due("too high comes first", x.strip(0, 251), -6);
        Check.due("a 201st plank", x.strip(0, 1), -7);
        Check.due("planks", x.count(2), 200);
        Check.due("the last plank", x.plank(199, 2), 200);
        see(x, 0, 100, 0, 0, 200, -1, 1);
    }

    private static void woundsRest() {
        CorkForest x = new CorkForest();
        Check.thrown("wound(0) without trees", Check.INDEX, () -> x.wound(0));
        x.tree(100);
        Check.thrown("wound(-1)", Check.INDEX, () -> x.wound(-1));
        x.years(3, 0);
        Check.due("wound", x.wound(0), 8);
        see(x, 0, 103, 15, -1, 0, 8, 0);
        Check.law(x, "rest 0", 1);
        Check.due("the later wound counts", x.wound(0), 3);
        x.mark(0);
        Check.due("it rests this year", x.strip(0, 1), -2);
        x.years(1, 0);
        Check.due("it rests no more", x.strip(0, 1), -5);
        Check.due("marked by a wound no less", x.look(0, 5), 1);
        Check.law(x, "rest 30", 1);
        Check.due("wound with rest 30", x.wound(0), 34);
    }

    private static void fires() {
        CorkForest x = new CorkForest();
        Check.thrown("fire(0) without trees", Check.INDEX, () -> x.fire(0));
        x.tree(100);
        Check.thrown("fire(-1)", Check.INDEX, () -> x.fire(-1));
        x.years(20, 100);
        x.mark(0);
        Check.due("strip", x.strip(0, 200), 0);
        x.years(2, 100);
        x.mark(0);
        x.wound(0);
        int bark = 38 * 150 / 100 + 36 * 150 / 100;
        Check.due("fire", x.fire(0), bark);
        see(x, 0, 144, 0, 22, 0, 27, 0, 300 + bark, 300, bark, 0);
        Check.due("fire again", x.fire(0), 0);
        Check.due("burnt", x.look(0, 8), bark);
        Check.due("no marked trees", x.count(10), 0);
    }

    private static void wrongLooks() {
        CorkForest x = new CorkForest();
        Check.thrown("look(0, 0) without trees", Check.INDEX, () -> x.look(0, 0));
        x.tree(100);
        Check.thrown("look(0, -1)", Check.ELEMENT, () -> x.look(0, -1));
        Check.thrown("look(0, 10)", Check.ELEMENT, () -> x.look(0, 10));
        Check.thrown("look(1, 10)", Check.INDEX, () -> x.look(1, 10));
        Check.thrown("look(-1, 0)", Check.INDEX, () -> x.look(-1, 0));
    }
}
