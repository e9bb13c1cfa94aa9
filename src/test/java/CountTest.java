/** Promises 1 and 27: a new object, count. */
final class CountTest {
    public static void main(String[] args) {
        everythingIsCounted();
        objectsAreApart();
        Check.due("NONE", CorkForest.NONE, -1);
        Check.finish();
    }

    private static void everythingIsCounted() {
        CorkForest x = new CorkForest();
        for (int i = 0; i < 5; i++) {
            x.tree(300);
            x.mark(i);
        }
        x.years(30, 50);
        x.years(1, 50);
        x.strip(0, 1);
        x.strip(1, 1);
        x.fire(2);
        for (int i = 0; i < 4; i++) {
            x.lot(1000000 - i);
            x.bid(i, i, 1000000);
        }
        for (int i = 1; i < 4; i++) {
            x.sell(i);
        }
        x.lay(40, 7, 1 << 9 | 1 << 10);
        x.sort(1, 1, 1);
        x.sort(1, 1, 1);
        x.stand(1, 1);
        x.stand(1, 1);
        x.stand(1, 1);
        Check.counts(x, 31, 5, 2, 4, 3, 2999994, 40, 4, 2, 3, 2);
    }

    private static void objectsAreApart() {
        CorkForest x = new CorkForest();
        CorkForest y = new CorkForest();
        x.tree(20);
        x.years(1, 1);
        x.lot(1);
        x.lay(9, 9, 9);
        x.sort(1, 1, 1);
        x.stand(1, 1);
        Check.law(x, "years 1", 1);
        Check.counts(y, 0, 0, 0, 0, 0, 0, 1, 0, 0, 0, 0);
        Check.due("the other law", y.says(0), 9);
    }
}
