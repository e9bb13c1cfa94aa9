/** The edges of promises 1 and 27, and the 512 calls of an object: the constructor, count. */
final class CountEdgesTest {
    public static void main(String[] args) {
        aNewObject();
        aRichOne();
        theFullest();
        noneForAnotherWhat();
        lotsSoldAndTheirMoney();
        markedTrees();
        the512thCall();
        Check.finish();
    }

    private static void aNewObject() {
        Check.sentence(1, "No TREES; the LAW as told; a STRIP of one CELL without a FLAW");
        Check.counts(new CorkForest(), 0, 0, 0, 0, 0, 0, 1, 0, 0, 0, 0);
        Check.says("at first", new CorkForest(), 9, 70, 250, 200, 5, 270);
        CorkForest x = new CorkForest();
        Check.due("an empty tape", x.end(1), false);
        Check.due("no fault", x.fault(), -1);
        Check.thrown("no tree", Check.INDEX, () -> x.look(0, 0));
        Check.thrown("no plank", Check.INDEX, () -> x.plank(0, 0));
        Check.thrown("no lot", Check.INDEX, () -> x.offer(0, 0));
        Check.thrown("no stand", Check.INDEX, () -> x.plan(0));
        Check.due("no sort", x.sort(1, 6, 0), 0);
        Check.due("the cell has no flaw", x.punch(false), 6);
    }

    private static void aRichOne() {
        Check.sentence(27, "0 the YEAR, 1 TREES .. 9 STANDS, 10 TREES that are MARKED");
        Check.counts(Made.rich(), 35, 5, 3, 3, 1, 40, 40, 4, 3, 3, 2);
    }

    private static void theFullest() {
        Check.sentence(27, "count (of what is full)");
        Check.due("trees", Made.fullForest().count(1), 40);
        Check.due("marked trees", Made.fullForest().count(10), 20);
        Check.due("planks", Made.fullPlanks().count(2), 200);
        Check.due("lots", Made.fullLots().count(3), 40);
        Check.due("lots sold", Made.fullLots().count(4), 20);
        Check.due("cells", Made.fullBench().count(6), 60);
        Check.due("flaws", Made.fullBench().count(7), 4);
        Check.due("sorts", Made.fullBench().count(8), 6);
        Check.due("stands", Made.fullStands().count(9), 6);
        CorkForest x = new CorkForest();
        x.lay(60, -1, -1);
        Check.due("flaws alone", x.count(7), 60);
    }

    private static void noneForAnotherWhat() {
        Check.sentence(27, "NONE for another what");
        int[] other = {Made.LEAST, -2, -1, 11, 12, Made.MOST};
        Twins.refusedEach("count(#)", Made::empty, CorkForest::count, -1, other);
        Twins.refusedEach("count(#)", Made::rich, CorkForest::count, -1, other);
        Check.due("NONE", CorkForest.NONE, -1);
    }

    private static void lotsSoldAndTheirMoney() {
        Check.sentence(27, "4 LOTS sold, 5 MONEY of these");
        CorkForest x = new CorkForest();
        for (int lot = 0; lot < 40; lot++) {
            x.lot(1000000);
            x.bid(lot, 0, 1000000);
            Check.due("lots sold ahead", x.count(4), lot);
            Check.due("money ahead", x.count(5), 1000000 * lot);
            x.sell(lot);
        }
        Check.due("all lots sold", x.count(4), 40);
        Check.due("the most money", x.count(5), 40000000);
        CorkForest free = new CorkForest();
        free.lot(0);
        free.bid(0, 0, 0);
        free.sell(0);
        Check.due("a lot sold for nothing", free.count(4), 1);
        Check.due("its money", free.count(5), 0);
    }

    private static void markedTrees() {
        Check.sentence(27, "10 TREES that are MARKED");
        CorkForest x = Made.lenient();
        for (int tree = 0; tree < 40; tree++) {
            x.tree(100);
            Check.due("marked trees ahead", x.count(10), tree);
            x.mark(tree);
            x.mark(tree);
        }
        Check.due("all trees", x.count(10), 40);
        x.strip(0, 1);
        Check.due("without the stripped one", x.count(10), 39);
        x.fire(39);
        Check.due("without the burnt one", x.count(10), 38);
        x.wound(1);
        Check.due("with the wounded one", x.count(10), 38);
    }

    /** The most years that an object can see, which bring the greatest numbers of a tree. */
    private static void the512thCall() {
        Check.term("An object is used for at most 512 calls after it has been made");
        CorkForest x = new CorkForest();
        x.tree(20);
        for (int call = 2; call <= 510; call++) {
            Check.due("call " + call, x.years(50, 200), 50 * (call - 1));
        }
        Check.due("call 511", x.look(0, 6), 25 * 50 * 509);
        Check.due("call 512", x.look(0, 9), 25 * 50 * 509 - 3000);
    }
}
