/** The edges of promises 15 to 19: lot, put, bid, sell, offer. */
final class LotEdgesTest {
    private static final int[] NO_LOT_OF_NONE = {Made.LEAST, -1, 0, 1, Made.MOST};
    private static final int[] NO_LOT_OF_THREE = {Made.LEAST, -1, 3, 4, 40, Made.MOST};
    private static final int[] NO_LOT_OF_FORTY = {Made.LEAST, -1, 40, 41, Made.MOST};

    public static void main(String[] args) {
        floorsThatAreNone();
        fortyLots();
        theFirstTold();
        aNewLot();
        aPlankThatIsInALot();
        aLotThatIsSold();
        noSuchLot();
        noSuchPlank();
        aLotOfManyPlanks();
        biddersThatAreNone();
        moneyThatIsNone();
        belowTheFloor();
        aBidForASoldLot();
        theLatestBidOfEach();
        withoutABid();
        soldOnce();
        theLeastNumberOfSeveral();
        forTheNextBid();
        forTheFloor();
        whatAnOfferTells();
        weightIsRoundedDownForEach();
        Check.finish();
    }

    private static CorkForest oneLot(int floor) {
        CorkForest x = new CorkForest();
        x.lot(floor);
        return x;
    }

    private static void floorsThatAreNone() {
        Check.sentence(15, "IllegalArgumentException: FLOOR is none (0 to 1000000)");
        int[] none = {Made.LEAST, -2, -1, 1000001, 1000002, Made.MOST};
        Twins.refusedEach("lot(#)", Made::empty, CorkForest::lot, Check.ARGUMENT, none);
        Twins.refusedEach("lot(#)", Made::rich, CorkForest::lot, Check.ARGUMENT, none);
        int[] good = {0, 1, 999999, 1000000};
        for (int floor : good) {
            CorkForest x = Made.rich();
            Check.due("lot(" + floor + ")", x.lot(floor), 3);
            Check.lot(x, 3, floor, 0, 0, -1, -1);
        }
    }

    private static void fortyLots() {
        Check.sentence(15, "UnsupportedOperationException: there are 40");
        CorkForest x = new CorkForest();
        for (int lot = 0; lot < 40; lot++) {
            Check.due("lots ahead of it", x.count(3), lot);
            Check.due("lot " + lot, x.lot(lot), lot);
        }
        Check.due("40 lots", x.count(3), 40);
        Twins.refusedEach("a 41st lot(#)", Made::fullLots, CorkForest::lot, Check.UNSUPPORTED, 0, 5, 1000000);
    }

    private static void theFirstTold() {
        Check.term("Of several exceptions the one told first is thrown");
        Twins.refusedEach("a 41st lot(#)", Made::fullLots, CorkForest::lot, Check.ARGUMENT, -1, 1000001);
        Twins.refused("bid(3, 8, 150)", Made::rich, x -> x.bid(3, 8, 150), Check.INDEX);
        Twins.refused("bid(-1, 0, -1)", Made::rich, x -> x.bid(-1, 0, -1), Check.INDEX);
        Twins.refused("offer(3, 5)", Made::rich, x -> x.offer(3, 5), Check.INDEX);
        Twins.refused("offer(-1, -1)", Made::rich, x -> x.offer(-1, -1), Check.INDEX);
        Twins.refused("put(3, 3)", Made::rich, x -> x.put(3, 3), Check.INDEX);
    }

    private static void aNewLot() {
        Check.sentence(15, "A new LOT without PLANKS: its number");
        Check.lot(oneLot(0), 0, 0, 0, 0, -1, -1);
        Check.lot(Made.rich(), 2, 7, 0, 0, -1, -1);
        Check.lot(Made.fullLots(), 19, 19, 0, 0, -1, -1);
    }

    private static void aPlankThatIsInALot() {
        Check.sentence(16, "false, and nothing happens, if it is in one");
        Twins.refused("put(0, 0) again", Made::rich, x -> x.put(0, 0), false);
        Twins.refused("put(2, 0), which is in 0", Made::rich, x -> x.put(2, 0), false);
        Twins.refused("put(2, 1), which is sold", Made::rich, x -> x.put(2, 1), false);
        Twins.refused("put(1, 1) again, sold", Made::rich, x -> x.put(1, 1), false);
        CorkForest x = Made.rich();
        Check.due("put(2, 2), which is in none", x.put(2, 2), true);
        Check.due("its lot", x.plank(2, 5), 2);
        Check.lot(x, 2, 7, 1, 3306, -1, -1);
        CorkForest y = Made.rich();
        Check.due("put(0, 2) beside another", y.put(0, 2), true);
        Check.lot(y, 0, 100, 2, 14400 + 3306, -1, -1);
    }

    private static void aLotThatIsSold() {
        Check.sentence(16, "false, and nothing happens, if the LOT is sold");
        Twins.refused("put(1, 2)", Made::rich, x -> x.put(1, 2), false);
        CorkForest x = Made.rich();
        Check.due("sell(0)", x.sell(0), 2);
        Check.due("put(0, 2)", x.put(0, 2), false);
        Check.due("its lot", x.plank(2, 5), -1);
        Check.lot(x, 0, 100, 1, 14400, 2, 120);
        Check.due("put(2, 2)", x.put(2, 2), true);
    }

    private static void noSuchLot() {
        Check.term("IndexOutOfBoundsException: there is no such LOT");
        refusedOfEach(Made::empty, NO_LOT_OF_NONE);
        refusedOfEach(Made::rich, NO_LOT_OF_THREE);
        refusedOfEach(Made::fullLots, NO_LOT_OF_FORTY);
        CorkForest x = Made.fullLots();
        Check.due("bid(39, 0, 39)", x.bid(39, 0, 39), false);
        Check.due("bid(0, 7, 0)", x.bid(0, 7, 0), true);
        Check.due("sell(0)", x.sell(0), 0);
        Check.due("offer(39, 0)", x.offer(39, 0), 39);
    }

    private static void refusedOfEach(Twins.Maker made, int[] none) {
        Twins.refusedEach("put(#, 0)", made, (x, lot) -> x.put(lot, 0), Check.INDEX, none);
        Twins.refusedEach("bid(#, 0, 1000)", made, (x, lot) -> x.bid(lot, 0, 1000), Check.INDEX, none);
        Twins.refusedEach("sell(#)", made, CorkForest::sell, Check.INDEX, none);
        Twins.refusedEach("offer(#, 0)", made, (x, lot) -> x.offer(lot, 0), Check.INDEX, none);
    }

    private static void noSuchPlank() {
        Check.sentence(16, "IndexOutOfBoundsException: of a LOT, PLANK");
        int[] ofThree = {Made.LEAST, -1, 3, 4, 200, Made.MOST};
        int[] ofNone = {Made.LEAST, -1, 0, 200, Made.MOST};
        Twins.refusedEach("put(0, #)", Made::rich, (x, plank) -> x.put(0, plank), Check.INDEX, ofThree);
        Twins.refusedEach("put(1, #), sold", Made::rich, (x, plank) -> x.put(1, plank), Check.INDEX, ofThree);
        Twins.refusedEach("put(0, #) without planks", Made::fullLots, (x, plank) -> x.put(0, plank), Check.INDEX, ofNone);
        CorkForest x = Made.fullPlanks();
        x.lot(0);
        Check.thrown("put(0, 200)", Check.INDEX, () -> x.put(0, 200));
        Check.due("put(0, 199)", x.put(0, 199), true);
    }

    /** So many planks that the 512 calls are nearly used; 200 can be stripped, but not put into a lot as well. */
    private static void aLotOfManyPlanks() {
        Check.sentence(19, "1 how many PLANKS, 2 WEIGHT");
        CorkForest x = Made.lenient();
        x.tree(600);
        x.lot(0);
        Check.lot(x, 0, 0, 0, 0, -1, -1);
        for (int plank = 0; plank < 120; plank++) {
            x.years(1, 200);
            x.mark(0);
            Check.due("strip", x.strip(0, 2400), plank);
            Check.due("put", x.put(0, plank), true);
        }
        Check.lot(x, 0, 0, 120, 36000 + 119 * 136800, -1, -1);
    }

    private static void biddersThatAreNone() {
        Check.sentence(17, "IllegalArgumentException: bidder (0 to 7) is none");
        int[] none = {Made.LEAST, -2, -1, 8, 9, Made.MOST};
        Twins.refusedEach("bid(0, #, 150)", Made::rich, (x, b) -> x.bid(0, b, 150), Check.ARGUMENT, none);
        Twins.refusedEach("bid(0, #, 99), below", Made::rich, (x, b) -> x.bid(0, b, 99), Check.ARGUMENT, none);
        Twins.refusedEach("bid(1, #, 150), sold", Made::rich, (x, b) -> x.bid(1, b, 150), Check.ARGUMENT, none);
        for (int bidder = 0; bidder < 8; bidder++) {
            CorkForest x = Made.rich();
            Check.due("bid(0, " + bidder + ", 151)", x.bid(0, bidder, 151), true);
            Check.due("sell", x.sell(0), bidder);
        }
    }

    private static void moneyThatIsNone() {
        Check.sentence(17, "IllegalArgumentException: money (0 to 1000000) is none");
        int[] none = {Made.LEAST, -2, -1, 1000001, 1000002, Made.MOST};
        Twins.refusedEach("bid(0, 2, #)", Made::rich, (x, money) -> x.bid(0, 2, money), Check.ARGUMENT, none);
        Twins.refusedEach("bid(1, 2, #), sold", Made::rich, (x, money) -> x.bid(1, 2, money), Check.ARGUMENT, none);
        int[] good = {0, 1, 999999, 1000000};
        for (int money : good) {
            CorkForest x = oneLot(0);
            Check.due("bid(0, 7, " + money + ")", x.bid(0, 7, money), true);
            Check.due("bid(0, 3, " + money + ")", x.bid(0, 3, money), true);
            Check.due("sell", x.sell(0), 3);
            Check.lot(x, 0, 0, 0, 0, 3, money);
        }
    }

    private static void belowTheFloor() {
        Check.sentence(17, "false, and nothing happens, if it is below FLOOR");
        Twins.refusedEach("bid(0, 2, #)", Made::rich, (x, money) -> x.bid(0, 2, money), false, 0, 98, 99);
        Twins.refusedEach("bid(0, 0, #)", Made::rich, (x, money) -> x.bid(0, 0, money), false, 0, 98, 99);
        Twins.refused("bid of 6", Made::rich, x -> x.bid(2, 0, 6), false);
        Twins.refused("bid of 999999", () -> oneLot(1000000), x -> x.bid(0, 0, 999999), false);
        int[] floors = {0, 1, 7, 999999, 1000000};
        for (int floor : floors) {
            CorkForest x = oneLot(floor);
            Check.due("bid of floor " + floor, x.bid(0, 6, floor), true);
            Check.due("sell", x.sell(0), 6);
            Check.lot(x, 0, floor, 0, 0, 6, floor);
        }
    }

    private static void aBidForASoldLot() {
        Check.sentence(17, "false, and nothing happens, if the LOT is sold");
        int[] money = {0, 29, 30, 41, 61, 1000000};
        Twins.refusedEach("bid(1, 0, #)", Made::rich, (x, m) -> x.bid(1, 0, m), false, money);
        Twins.refusedEach("bid(1, 4, #)", Made::rich, (x, m) -> x.bid(1, 4, m), false, money);
        Twins.refused("bid(39, 7, 1000)", Made::fullLots, x -> x.bid(39, 7, 1000), false);
    }

    private static void theLatestBidOfEach() {
        Check.term("BIDS of bidders 0 to 7 (the latest one of each counts)");
        CorkForest x = oneLot(10);
        for (int bidder = 0; bidder < 8; bidder++) {
            x.bid(0, bidder, 500 + bidder);
        }
        for (int bidder = 0; bidder < 8; bidder++) {
            Check.due("a lower one", x.bid(0, bidder, 20 - bidder), true);
        }
        Check.due("an equal one", x.bid(0, 1, 19), true);
        Check.due("sell", x.sell(0), 0);
        Check.lot(x, 0, 10, 0, 0, 0, 19);
        CorkForest y = oneLot(10);
        y.bid(0, 0, 50);
        y.bid(0, 0, 10);
        Check.due("sell to the only one", y.sell(0), 0);
        Check.lot(y, 0, 10, 0, 0, 0, 10);
    }

    private static void withoutABid() {
        Check.sentence(18, "NONE, and nothing happens, without a BID");
        Twins.refused("sell(2)", Made::rich, x -> x.sell(2), -1);
        Twins.refused("sell of a floor 0", () -> oneLot(0), x -> x.sell(0), -1);
        CorkForest x = oneLot(5);
        x.bid(0, 3, 4);
        Check.due("sell with a refused bid", x.sell(0), -1);
        x.bid(0, 3, 5);
        Check.due("sell with a bid", x.sell(0), 3);
        Check.due("lots sold", x.count(4), 1);
    }

    private static void soldOnce() {
        Check.sentence(18, "NONE, and nothing happens, if it was");
        Twins.refused("sell(1) again", Made::rich, x -> x.sell(1), -1);
        Twins.refusedEach("sell(#) again", Made::fullLots, CorkForest::sell, -1, 20, 39);
        CorkForest x = Made.fullLots();
        for (int lot = 0; lot < 20; lot++) {
            Check.due("sell(" + lot + ")", x.sell(lot), lot % 8);
            Check.lot(x, lot, lot, 0, 0, lot % 8, lot);
        }
        Check.due("lots sold", x.count(4), 40);
        Check.due("money", x.count(5), 780);
    }

    private static void theLeastNumberOfSeveral() {
        Check.term("to the bidder of the greatest BID, of several the least number");
        for (int first = 0; first < 8; first++) {
            for (int second = 0; second < 8; second++) {
                CorkForest x = oneLot(1);
                x.bid(0, first, 50);
                x.bid(0, second, 50);
                Check.due("sell to " + first + " or " + second, x.sell(0), Math.min(first, second));
                Check.due("for", x.offer(0, 4), first == second ? 1 : 50);
            }
        }
        CorkForest all = oneLot(1);
        for (int bidder = 7; bidder >= 0; bidder--) {
            all.bid(0, bidder, 50);
        }
        Check.due("sell to one of all", all.sell(0), 0);
        Check.lot(all, 0, 1, 0, 0, 0, 50);
    }

    private static void forTheNextBid() {
        Check.term("for the greatest BID of the others");
        for (int greatest = 0; greatest < 8; greatest++) {
            for (int next = 0; next < 8; next++) {
                CorkForest x = oneLot(1);
                for (int bidder = 0; bidder < 8; bidder++) {
                    x.bid(0, bidder, bidder == greatest ? 50 : bidder == next ? 49 : 10 + bidder);
                }
                int want = greatest != next ? 49 : greatest == 7 ? 16 : 17;
                Check.due("sell", x.sell(0), greatest);
                Check.lot(x, 0, 1, 0, 0, greatest, want);
            }
        }
    }

    private static void forTheFloor() {
        Check.term("or the FLOOR without one");
        for (int bidder = 0; bidder < 8; bidder++) {
            CorkForest x = oneLot(9);
            x.bid(0, bidder, 1000000);
            Check.due("sell to the only one", x.sell(0), bidder);
            Check.lot(x, 0, 9, 0, 0, bidder, 9);
        }
        CorkForest free = oneLot(0);
        free.bid(0, 5, 1000000);
        Check.due("sell for nothing", free.sell(0), 5);
        Check.lot(free, 0, 0, 0, 0, 5, 0);
        Check.due("money", free.count(5), 0);
        Check.due("lots sold", free.count(4), 1);
    }

    private static void whatAnOfferTells() {
        Check.sentence(19, "what 0 FLOOR .. 3 to whom it was sold (NONE), 4 for what (NONE). NoSuchElementException");
        Check.lot(Made.rich(), 0, 100, 1, 14400, -1, -1);
        Check.lot(Made.rich(), 1, 30, 1, 270000, 4, 40);
        int[] other = {Made.LEAST, -2, -1, 5, 6, Made.MOST};
        Twins.refusedEach("offer(0, #)", Made::rich, (x, what) -> x.offer(0, what), Check.ELEMENT, other);
        Twins.refusedEach("offer(1, #), sold", Made::rich, (x, what) -> x.offer(1, what), Check.ELEMENT, other);
        Twins.refusedEach("offer(39, #)", Made::fullLots, (x, what) -> x.offer(39, what), Check.ELEMENT, -1, 5);
    }

    /** Planks of 999, 1998, 1000 and 2400 times 600 times 3000; the last product is beyond 32 bits. */
    private static void weightIsRoundedDownForEach() {
        Check.term("high times wide times thick by 1000, rounded down for each, added up");
        CorkForest x = Made.lenient();
        x.tree(600);
        x.years(50, 200);
        x.years(50, 200);
        x.years(20, 200);
        int[][] girthRainHeight = {{36, 40, 3}, {36, 40, 3}, {36, 40, 6}, {24, 0, 8}};
        for (int tree = 1; tree <= girthRainHeight.length; tree++) {
            int[] row = girthRainHeight[tree - 1];
            x.tree(row[0]);
            x.years(1, row[1]);
            x.mark(tree);
            Check.due("strip", x.strip(tree, row[2]), tree - 1);
        }
        x.mark(0);
        Check.due("strip of the greatest", x.strip(0, 2400), 4);
        x.lot(0);
        int[] want = {0, 0, 1, 2, 4320002};
        for (int plank = 0; plank < want.length; plank++) {
            x.put(0, plank);
            Check.due("weight with plank " + plank, x.offer(0, 2), want[plank]);
        }
    }
}
