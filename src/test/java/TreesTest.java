/** Promises 4, 5 and 9 to 14: tree, years, mark, strip, wound, fire, look, plank. */
final class TreesTest {
    public static void main(String[] args) {
        growthByRainAndAge();
        aPlankComes();
        woundsRest();
        fires();
        Check.finish();
    }

    private static void growthByRainAndAge() {
        CorkForest x = new CorkForest();
        x.tree(100);
        x.years(1, 99);
        Check.tree(x, 0, 101, 14);
        x.years(1, 199);
        Check.tree(x, 0, 103, 14 + 24);
        x.years(1, 200);
        Check.tree(x, 0, 106, 14 + 24 + 25);
        x.fire(0);
        int bark = 0;
        for (int age = 1; age <= 20; age++) {
            x.years(1, 33);
            int base = age < 15 ? 40 - 2 * age : 10;
            bark += base * 83 / 100;
            Check.due("bark at age " + age, x.look(0, 1), bark);
        }
        Check.due("all that grew", x.look(0, 6), 63 + bark);
    }

    private static void aPlankComes() {
        CorkForest x = new CorkForest();
        x.tree(20);
        x.tree(90);
        x.years(30, 50);
        x.mark(1);
        Check.due("strip", x.strip(1, 240), 0);
        Check.plank(x, 0, 1, 30, 240, 120, 300, -1);
        Check.tree(x, 1, 120, 0, 30, 240, -1, 0, 300, 300, 0, 0);
        Check.tree(x, 0, 50, 300, -1, 0, -1, 0, 300, 0, 0, 0);
        x.years(8, 50);
        x.mark(1);
        Check.due("a year too early", x.strip(1, 300), -3);
        x.years(1, 50);
        Check.due("strip again", x.strip(1, 300), 1);
        Check.tree(x, 1, 129, 0, 39, 300, -1, 0, 570, 570, 0, 0);
        Check.due("the first plank stays", x.plank(0, 4), 300);
    }

    private static void woundsRest() {
        CorkForest x = new CorkForest();
        x.tree(100);
        x.years(3, 0);
        Check.due("wound", x.wound(0), 8);
        Check.tree(x, 0, 103, 15, -1, 0, 8, 0);
        Check.law(x, "rest 0", 1);
        Check.due("the later wound counts", x.wound(0), 3);
        x.mark(0);
        Check.due("it rests this year", x.strip(0, 1), -2);
        x.years(1, 0);
        Check.due("it rests no more", x.strip(0, 1), -5);
        Check.due("marked by a wound no less", x.look(0, 5), 1);
        Check.law(x, "rest 30", 1);
        Check.due("wound with rest 30", x.wound(0), 34);
    }

    private static void fires() {
        CorkForest x = new CorkForest();
        x.tree(100);
        x.years(20, 100);
        x.mark(0);
        Check.due("strip", x.strip(0, 200), 0);
        x.years(2, 100);
        x.mark(0);
        x.wound(0);
        int bark = 38 * 150 / 100 + 36 * 150 / 100;
        Check.due("fire", x.fire(0), bark);
        Check.tree(x, 0, 144, 0, 22, 0, 27, 0, 300 + bark, 300, bark, 0);
        Check.due("fire again", x.fire(0), 0);
        Check.due("burnt", x.look(0, 8), bark);
        Check.due("no marked trees", x.count(10), 0);
    }
}
