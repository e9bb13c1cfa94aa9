/** Promises 15 to 19: lot, put, bid, sell, offer. */
final class LotsTest {
    public static void main(String[] args) {
        planksComeIntoLots();
        weightIsRoundedForEachPlank();
        weightOfTheGreatestPlanks();
        soldForTheNextBid();
        laterBidsCount();
        tiesGoToTheLeastNumber();
        Check.finish();
    }

    /** A forest with one tree and so many planks of it, each a centimetre higher than the one before. */
    private static CorkForest withPlanks(int planks) {
        CorkForest x = new CorkForest();
        x.tree(100);
        Check.law(x, "years 0;thick 0", 2);
        for (int i = 0; i < planks; i++) {
            x.years(1, 33);
            x.mark(0);
            Check.due("plank " + i, x.strip(0, 1 + i), i);
        }
        return x;
    }

    private static void planksComeIntoLots() {
        CorkForest x = withPlanks(3);
        x.lot(5);
        x.lot(6);
        Check.due("put(1, 2)", x.put(1, 2), true);
        Check.due("put(1, 2) again", x.put(1, 2), false);
        Check.due("put(0, 2)", x.put(0, 2), false);
        Check.due("put(1, 0)", x.put(1, 0), true);
        Check.due("lot of plank 2", x.plank(2, 5), 1);
        Check.due("lot of plank 0", x.plank(0, 5), 1);
        Check.due("lot of plank 1", x.plank(1, 5), -1);
        Check.lot(x, 0, 5, 0, 0, -1, -1);
        Check.due("planks of lot 1", x.offer(1, 1), 2);
        Check.due("planks of lot 0", x.offer(0, 1), 0);
    }

    private static void weightIsRoundedForEachPlank() {
        CorkForest x = withPlanks(6);
        x.lot(0);
        int weight = 0;
        for (int plank = 0; plank < 6; plank++) {
            x.put(0, plank);
            weight += x.plank(plank, 2) * x.plank(plank, 3) * x.plank(plank, 4) / 1000;
            Check.due("weight with plank " + plank, x.offer(0, 2), weight);
        }
        Check.due("weight of all planks", weight, 0 + 6 + 9 + 12 + 16 + 19);
    }

    private static void weightOfTheGreatestPlanks() {
        CorkForest x = new CorkForest();
        Check.law(x, "years 0;thick 0;first 400;height 400", 4);
        x.lot(0);
        for (int i = 0; i < 40; i++) {
            x.tree(600);
            x.mark(i);
        }
        x.years(50, 200);
        x.years(50, 200);
        x.years(50, 200);
        for (int i = 0; i < 40; i++) {
            Check.due("strip", x.strip(i, 2400), i);
            x.put(0, i);
        }
        Check.due("weight beyond 32 bits ahead of the division", x.offer(0, 2), 40 * 4320000);
    }

    private static void soldForTheNextBid() {
        int[][] orders = {{30, 20, 10}, {30, 10, 20}, {20, 30, 10}, {20, 10, 30}, {10, 30, 20}, {10, 20, 30}};
        CorkForest x = new CorkForest();
        for (int lot = 0; lot < orders.length; lot++) {
            x.lot(5);
            int greatest = 0;
            for (int i = 0; i < 3; i++) {
                Check.due("bid", x.bid(lot, 2 * i + 1, orders[lot][i]), true);
                greatest = orders[lot][i] == 30 ? 2 * i + 1 : greatest;
            }
            Check.due("sell", x.sell(lot), greatest);
            Check.lot(x, lot, 5, 0, 0, greatest, 20);
        }
        Check.due("lots sold", x.count(4), 6);
        Check.due("money", x.count(5), 120);
    }

    private static void laterBidsCount() {
        CorkForest x = new CorkForest();
        x.lot(10);
        x.bid(0, 0, 500);
        x.bid(0, 1, 400);
        Check.due("a lower bid later", x.bid(0, 0, 300), true);
        Check.due("a bid below the floor keeps the one before", x.bid(0, 1, 9), false);
        Check.due("sell", x.sell(0), 1);
        Check.due("price", x.offer(0, 4), 300);
    }

    private static void tiesGoToTheLeastNumber() {
        CorkForest x = new CorkForest();
        x.lot(10);
        x.bid(0, 6, 50);
        x.bid(0, 2, 50);
        x.bid(0, 4, 50);
        x.bid(0, 0, 20);
        Check.due("sell", x.sell(0), 2);
        Check.due("price", x.offer(0, 4), 50);
    }
}
