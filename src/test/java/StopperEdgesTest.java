/** The edges of promises 20 to 23: lay, sort, unsort, punch. */
final class StopperEdgesTest {
    public static void main(String[] args) {
        cellsThatAreNone();
        bitsOfLow();
        bitsOfHigh();
        cellsThatItHasNot();
        aNewStripTakesTheOldOnesPlace();
        sizesThatAreNone();
        worthsThatAreNone();
        flawsThatAreNone();
        sixSorts();
        noSortsAnyMore();
        asLongAsTheStrip();
        besideOneAnother();
        noMoreFlawsThanItsSort();
        flawsAtTheEndsAndInTheMiddle();
        theGreatestSum();
        theFewestStoppers();
        nothingWorthAnything();
        theFullStripAndBench();
        Check.finish();
    }

    private static CorkForest strip(int cells, int low, int high) {
        CorkForest x = new CorkForest();
        x.lay(cells, low, high);
        return x;
    }

    private static void punched(String told, CorkForest x, int worth, int stoppers) {
        Check.due("punch of " + told, x.punch(false), worth);
        Check.due("how many of " + told, x.punch(true), stoppers);
    }

    private static void cellsThatAreNone() {
        Check.sentence(20, "IllegalArgumentException: not 1 to 60 CELLS");
        int[] none = {Made.LEAST, -60, -1, 0, 61, 62, 64, Made.MOST};
        for (int cells : none) {
            Twins.refused("lay(" + cells + ", ..)", Made::empty, Twins.lay(cells, -1, -1), Check.ARGUMENT);
            Twins.refused("lay(" + cells + ", ..)", Made::rich, Twins.lay(cells, -1, -1), Check.ARGUMENT);
            Twins.refused("lay(" + cells + ", ..)", Made::fullBench, Twins.lay(cells, 0, 0), Check.ARGUMENT);
        }
        int[] good = {1, 2, 59, 60};
        for (int cells : good) {
            CorkForest x = strip(cells, 0, 0);
            Check.due("cells", x.count(6), cells);
            Check.due("flaws", x.count(7), 0);
            x.sort(1, 1, 0);
            punched(cells + " cells", x, cells, cells);
        }
    }

    private static void bitsOfLow() {
        Check.sentence(20, "bit k of low is CELL k (0 to 29)");
        for (int k = 0; k < 32; k++) {
            for (int cells = 1; cells <= 60; cells++) {
                CorkForest x = strip(cells, 1 << k, 0);
                Check.due("flaws of " + cells + " cells with bit " + k, x.count(7), k < 30 && k < cells ? 1 : 0);
            }
        }
    }

    private static void bitsOfHigh() {
        Check.sentence(20, "of high CELL 30 + k");
        for (int k = 0; k < 32; k++) {
            for (int cells = 1; cells <= 60; cells++) {
                CorkForest x = strip(cells, 0, 1 << k);
                Check.due("flaws of " + cells + " cells with bit " + k, x.count(7), k < 30 && 30 + k < cells ? 1 : 0);
            }
        }
    }

    private static void cellsThatItHasNot() {
        Check.sentence(20, "what is told of CELLS that it has not counts for nothing");
        for (int cells = 1; cells <= 60; cells++) {
            Check.due("all bits", strip(cells, -1, -1).count(7), cells);
            Check.due("all of low", strip(cells, -1, 0).count(7), Math.min(30, cells));
            Check.due("all of high", strip(cells, 0, -1).count(7), Math.max(0, cells - 30));
        }
        Check.due("bits 30 and 31", strip(60, 3 << 30, 3 << 30).count(7), 0);
        CorkForest x = strip(12, ~0xfff, -1);
        x.sort(12, 9, 0);
        punched("a strip ahead of flaws", x, 9, 1);
    }

    private static void aNewStripTakesTheOldOnesPlace() {
        Check.sentence(20, "The STRIP (one at a time)");
        CorkForest x = strip(60, -1, -1);
        x.sort(1, 1, 0);
        x.lay(1, 0, 0);
        punched("a shorter one", x, 1, 1);
        x.lay(60, 0, 0);
        Check.due("no flaw of an earlier one", x.count(7), 0);
        punched("a longer one", x, 60, 60);
        Check.due("the sorts stay", x.count(8), 1);
    }

    private static void sizesThatAreNone() {
        Check.sentence(21, "IllegalArgumentException: a number is none (1 to 12 CELLS)");
        int[] none = {Made.LEAST, -1, 0, 13, 14, Made.MOST};
        Twins.refusedEach("sort(#, 5, 0)", Made::rich, (x, size) -> x.sort(size, 5, 0), Check.ARGUMENT, none);
        Twins.refusedEach("sort(#, 5, 0)", Made::fullBench, (x, size) -> x.sort(size, 5, 0), Check.ARGUMENT, none);
        for (int size = 1; size <= 12; size++) {
            CorkForest x = strip(60, 0, 0);
            Check.due("sort(" + size + ", 5, 0)", x.sort(size, 5, 0), 0);
            punched("size " + size, x, 60 / size * 5, 60 / size);
        }
    }

    private static void worthsThatAreNone() {
        Check.sentence(21, "IllegalArgumentException: a number is none (a WORTH, 0 to 1000)");
        int[] none = {Made.LEAST, -2, -1, 1001, 1002, Made.MOST};
        Twins.refusedEach("sort(1, #, 0)", Made::rich, (x, worth) -> x.sort(1, worth, 0), Check.ARGUMENT, none);
        Twins.refusedEach("sort(1, #, 0)", Made::fullBench, (x, worth) -> x.sort(1, worth, 0), Check.ARGUMENT, none);
        int[] good = {0, 1, 999, 1000};
        for (int worth : good) {
            CorkForest x = new CorkForest();
            Check.due("sort(1, " + worth + ", 0)", x.sort(1, worth, 0), 0);
            punched("worth " + worth, x, worth, worth > 0 ? 1 : 0);
        }
    }

    private static void flawsThatAreNone() {
        Check.sentence(21, "IllegalArgumentException: a number is none (how many FLAWS, 0 to 12)");
        int[] none = {Made.LEAST, -2, -1, 13, 14, Made.MOST};
        Twins.refusedEach("sort(1, 5, #)", Made::rich, (x, flaws) -> x.sort(1, 5, flaws), Check.ARGUMENT, none);
        Twins.refusedEach("sort(1, 5, #)", Made::fullBench, (x, flaws) -> x.sort(1, 5, flaws), Check.ARGUMENT, none);
        for (int flaws = 0; flaws <= 12; flaws++) {
            CorkForest x = strip(12, (1 << flaws) - 1, 0);
            Check.due("sort(12, 5, " + flaws + ")", x.sort(12, 5, flaws), 0);
            punched("so many flaws", x, 5, 1);
            if (flaws < 12) {
                x.lay(12, (2 << flaws) - 1, 0);
                punched("one flaw more", x, 0, 0);
            }
        }
    }

    private static void sixSorts() {
        Check.sentence(21, "its number; NONE, and it does not come, if there are 6");
        CorkForest x = new CorkForest();
        for (int sort = 0; sort < 6; sort++) {
            Check.due("sorts ahead of it", x.count(8), sort);
            Check.due("sort " + sort, x.sort(1, sort, 0), sort);
            Check.due("its worth", x.punch(false), sort);
        }
        Check.due("6 sorts", x.count(8), 6);
        Twins.refused("a 7th sort", Made::fullBench, y -> y.sort(1, 1000, 12), -1);
        Twins.refused("a 7th sort of the least", Made::fullBench, y -> y.sort(1, 0, 0), -1);
        Twins.refused("a 7th sort of the most", Made::fullBench, y -> y.sort(12, 1000, 12), -1);
    }

    private static void noSortsAnyMore() {
        Check.sentence(22, "No sorts any more: how many there were");
        Twins.refused("unsort of none", Made::empty, CorkForest::unsort, 0);
        for (int sorts = 0; sorts <= 6; sorts++) {
            CorkForest x = new CorkForest();
            for (int sort = 0; sort < sorts; sort++) {
                x.sort(1, 9, 0);
            }
            Check.due("unsort", x.unsort(), sorts);
            Check.due("sorts", x.count(8), 0);
            Check.due("unsort again", x.unsort(), 0);
            punched("no sorts", x, 0, 0);
            Check.due("numbers from 0 on again", x.sort(1, 2, 0), 0);
            punched("the new sort alone", x, 2, 1);
        }
        CorkForest full = Made.fullBench();
        full.unsort();
        Check.due("the strip stays", full.count(6), 60);
        Check.due("its flaws stay", full.count(7), 4);
        for (int sort = 0; sort < 6; sort++) {
            Check.due("six more", full.sort(1, 1, 0), sort);
        }
        Check.due("no seventh", full.sort(1, 1, 0), -1);
    }

    private static void asLongAsTheStrip() {
        Check.term("STOPPERS of any sorts lie on the STRIP");
        for (int cells = 1; cells <= 12; cells++) {
            CorkForest x = strip(cells, 0, 0);
            if (cells < 12) {
                x.sort(cells + 1, 7, 12);
            }
            punched("a stopper longer by one", x, 0, 0);
            x.sort(cells, 5, 0);
            punched("a stopper as long", x, 5, 1);
        }
    }

    private static void besideOneAnother() {
        Check.term("lie beside one another on the STRIP (CELLS between them may be left)");
        int[] cells = {2, 3, 5, 6, 59, 60};
        for (int many : cells) {
            CorkForest x = strip(many, 0, 0);
            x.sort(3, 4, 0);
            punched(many + " cells by three", x, many / 3 * 4, many / 3);
        }
        CorkForest x = strip(7, 0b0001000, 0);
        x.sort(3, 4, 0);
        punched("a cell is left between", x, 8, 2);
        x.lay(7, 0b0010000, 0);
        punched("three and two", x, 4, 1);
        x.lay(5, 0b00001, 0);
        x.sort(2, 3, 0);
        punched("cells are left ahead", x, 6, 2);
        x.lay(5, 0b10000, 0);
        punched("cells are left behind", x, 6, 2);
    }

    private static void noMoreFlawsThanItsSort() {
        Check.term("each with no more FLAWS than its sort may have");
        CorkForest x = strip(4, 0b0110, 0);
        x.sort(4, 5, 1);
        punched("two flaws for one", x, 0, 0);
        x.sort(4, 3, 2);
        punched("two flaws for two", x, 3, 1);
        x.sort(2, 4, 1);
        punched("one each", x, 8, 2);
        CorkForest single = strip(1, 1, 0);
        single.sort(1, 5, 0);
        punched("a flaw for none", single, 0, 0);
        single.sort(1, 2, 12);
        punched("a flaw for more than it is long", single, 2, 1);
    }

    private static void flawsAtTheEndsAndInTheMiddle() {
        Check.term("bits are told in two numbers: of the first 30 CELLS, of those behind");
        for (int cell = 0; cell < 60; cell++) {
            CorkForest x = strip(60, cell < 30 ? 1 << cell : 0, cell < 30 ? 0 : 1 << cell - 30);
            x.sort(7, 10, 0);
            int stoppers = cell / 7 + (59 - cell) / 7;
            punched("a flaw at " + cell, x, 10 * stoppers, stoppers);
            x.sort(1, 1, 1);
            int rest = 60 - 7 * stoppers;
            punched("a flaw at " + cell + " and fillers", x, 10 * stoppers + rest, stoppers + rest);
        }
        CorkForest x = strip(60, ~(3 << 28), ~3);
        x.sort(4, 9, 0);
        punched("across both numbers", x, 9, 1);
        x.lay(60, ~(3 << 28), ~1);
        punched("one too few", x, 0, 0);
        x.lay(60, ~(1 << 29), ~3);
        punched("one too few ahead", x, 0, 0);
    }

    private static void theGreatestSum() {
        Check.term("PUNCH: the greatest sum of WORTHS");
        CorkForest x = strip(8, 0, 0);
        x.sort(5, 9, 0);
        x.sort(4, 7, 0);
        punched("two of less are worth more", x, 14, 2);
        x.sort(3, 6, 0);
        punched("unlike ones", x, 15, 2);
        x.sort(1, 2, 0);
        punched("many small ones", x, 16, 4);
    }

    private static void theFewestStoppers() {
        Check.term("HOW MANY: of all ways to reach that the fewest STOPPERS");
        CorkForest x = strip(12, 0, 0);
        x.sort(1, 1, 0);
        punched("ones", x, 12, 12);
        x.sort(2, 2, 0);
        punched("twos", x, 12, 6);
        x.sort(5, 5, 0);
        punched("fives and a two", x, 12, 3);
        x.sort(12, 11, 0);
        punched("one of less worth", x, 12, 3);
        x.sort(11, 12, 0);
        punched("one as worthy, if a cell is left", x, 13, 2);
        x.sort(12, 13, 0);
        punched("one of all cells", x, 13, 1);
    }

    private static void nothingWorthAnything() {
        Check.sentence(23, "HOW MANY (0 of nothing worth anything)");
        punched("a new strip", new CorkForest(), 0, 0);
        punched("no sorts", strip(60, 0, 0), 0, 0);
        CorkForest x = strip(60, 0, 0);
        x.sort(1, 0, 12);
        x.sort(12, 0, 12);
        punched("no worth", x, 0, 0);
        x.sort(12, 1, 0);
        punched("five of some worth", x, 5, 5);
        x.lay(60, -1, -1);
        punched("flaws alone", x, 0, 0);
    }

    private static void theFullStripAndBench() {
        Check.sentence(23, "PUNCH (of 60 CELLS and 6 sorts)");
        CorkForest x = strip(60, -1, -1);
        for (int sort = 0; sort < 6; sort++) {
            x.sort(1, 995 + sort, 1);
        }
        punched("the most", x, 60000, 60);
        x.unsort();
        for (int sort = 0; sort < 6; sort++) {
            x.sort(12 - sort, 1000, 12 - sort);
        }
        punched("sevens", x, 8000, 8);
        Twins.refused("punch", Made::fullBench, y -> y.punch(false) - y.punch(false), 0);
        Twins.refused("how many", Made::fullBench, y -> y.punch(true) - y.punch(true), 0);
    }
}
