/** Forests that the tests of edges begin with; each is made by far fewer than 512 calls, so that many are left. */
final class Made {
    static final int LEAST = Integer.MIN_VALUE;
    static final int MOST = Integer.MAX_VALUE;

    private Made() {
    }

    static CorkForest empty() {
        return new CorkForest();
    }

    /** A law with which nothing but a missing mark, a rest or the height is against a stripping. */
    static CorkForest lenient() {
        CorkForest x = new CorkForest();
        Check.law(x, "years 0;girth 0;thick 0;first 400;height 400", 5);
        return x;
    }

    /** Something of everything, so that what a call should not touch is there to be touched. */
    static CorkForest rich() {
        CorkForest x = new CorkForest();
        Check.law(x, "first 300;rest 7", 2);
        addTreesAndPlanks(x);
        addLots(x);
        x.lay(40, 0b1001, 0b1000000001);
        x.sort(3, 10, 0);
        x.sort(4, 15, 1);
        x.sort(12, 40, 3);
        x.stand(5, 1);
        x.stand(7, 3);
        x.stand(3, 7);
        Check.lawFails(x, "rest 9;x", 7);
        Check.feedText(x, "rest 8;girth 13");
        return x;
    }

    /** Trees 0 to 4: stripped; marked behind a stripping; stripped and resting; burnt; marked and never stripped. */
    private static void addTreesAndPlanks(CorkForest x) {
        int[] girths = {100, 20, 600, 50, 60};
        for (int girth : girths) {
            x.tree(girth);
        }
        x.years(30, 100);
        strip(x, 0, 200);
        strip(x, 2, 1000);
        x.years(3, 50);
        strip(x, 1, 83);
        x.fire(3);
        x.years(2, 50);
        x.mark(1);
        x.mark(4);
        x.wound(2);
    }

    /** Lots 0 to 2: with a plank and two bids; sold with a plank; empty. Plank 2 is in no lot. */
    private static void addLots(CorkForest x) {
        x.lot(100);
        x.lot(30);
        x.lot(7);
        x.put(0, 0);
        x.put(1, 1);
        x.bid(0, 2, 150);
        x.bid(0, 5, 120);
        x.bid(1, 3, 40);
        x.bid(1, 4, 60);
        x.sell(1);
    }

    static void strip(CorkForest x, int tree, int h) {
        x.mark(tree);
        x.strip(tree, h);
    }

    static CorkForest fullTape() {
        CorkForest x = new CorkForest();
        Check.feedText(x, "rest 0;".repeat(57) + "r");
        return x;
    }

    /** 40 trees, each a centimetre thicker than the one before; every second one is marked. */
    static CorkForest fullForest() {
        CorkForest x = new CorkForest();
        for (int tree = 0; tree < 40; tree++) {
            x.tree(30 + tree);
            if (tree % 2 == 1) {
                x.mark(tree);
            }
        }
        x.years(1, 100);
        return x;
    }

    /** 200 planks of one tree, each a centimetre higher than the one before; the tree is marked again. */
    static CorkForest fullPlanks() {
        CorkForest x = lenient();
        x.tree(60);
        for (int plank = 0; plank < 200; plank++) {
            strip(x, 0, 1 + plank);
        }
        x.years(1, 100);
        x.mark(0);
        return x;
    }

    /** 40 lots, floors 0 to 39; those from 20 on are sold. */
    static CorkForest fullLots() {
        CorkForest x = new CorkForest();
        for (int lot = 0; lot < 40; lot++) {
            x.lot(lot);
            x.bid(lot, lot % 8, 100 + lot);
            if (lot >= 20) {
                x.sell(lot);
            }
        }
        return x;
    }

    static CorkForest fullBench() {
        CorkForest x = new CorkForest();
        x.lay(60, 0b1000100, 0b10001000);
        for (int size = 2; size <= 7; size++) {
            x.sort(size, 10 * size + size % 3, size % 3);
        }
        return x;
    }

    /** Six stands, each in a year of its own by the plan, which has been asked for. */
    static CorkForest fullStands() {
        CorkForest x = new CorkForest();
        for (int stand = 0; stand < 6; stand++) {
            x.stand(10 + stand, 3 << stand);
        }
        x.even();
        return x;
    }

    /** Six stands in the last year alone, so that a change of any one shows; the plan has been asked for. */
    static CorkForest crowdedStands() {
        CorkForest x = new CorkForest();
        for (int stand = 0; stand < 6; stand++) {
            x.stand(10 + stand, 256);
        }
        x.even();
        return x;
    }
}
