import java.util.Random;

/** Promises 24 to 26: stand, even, plan. */
final class StandsTest {
    public static void main(String[] args) {
        someOfEvenSize();
        plansOfLeastYears();
        yieldsOfNothing();
        againstAllPlans();
        Check.finish();
    }

    private static void someOfEvenSize() {
        CorkForest x = new CorkForest();
        for (int i = 0; i < 6; i++) {
            x.stand(10, 7);
        }
        Check.due("two a year", x.even(), 20);
        int[] want = {0, 0, 1, 1, 2, 2};
        for (int i = 0; i < 6; i++) {
            Check.due("plan(" + i + ")", x.plan(i), want[i]);
        }
    }

    private static void plansOfLeastYears() {
        CorkForest x = new CorkForest();
        x.stand(3, 511);
        Check.due("alone", x.plan(0), 0);
        x.stand(9, 1);
        Check.due("even with 9", x.even(), 9);
        Check.due("0 makes room", x.plan(0), 1);
        x.stand(5, 3);
        Check.due("even with 5", x.even(), 9);
        Check.due("both fit into year 1", x.plan(0), 1);
        Check.due("2 of 1", x.plan(2), 1);
        x.stand(7, 6);
        Check.due("even with 7", x.even(), 9);
        Check.due("3 goes to year 2", x.plan(3), 2);
    }

    private static void yieldsOfNothing() {
        CorkForest x = new CorkForest();
        x.stand(0, 0b110100);
        x.stand(0, 0b100000000);
        Check.due("even", x.even(), 0);
        Check.due("plan(0)", x.plan(0), 2);
        Check.due("plan(1)", x.plan(1), 8);
    }

    private static void againstAllPlans() {
        Random random = new Random(13);
        for (int run = 0; run < 400; run++) {
            CorkForest x = new CorkForest();
            int stands = 1 + random.nextInt(6);
            int[] yields = new int[stands];
            int[] years = new int[stands];
            for (int i = 0; i < stands; i++) {
                yields[i] = random.nextInt(random.nextBoolean() ? 6 : 1000001);
                years[i] = 1 + random.nextInt(random.nextBoolean() ? 15 : 511);
                x.stand(yields[i], years[i]);
                if (random.nextInt(4) == 0) {
                    x.even();
                }
            }
            int[] want = allPlans(yields, years);
            for (int i = 0; i < stands; i++) {
                Check.due("plan(" + i + ") of run " + run, x.plan(i), want[i]);
            }
            Check.due("even of run " + run, x.even(), want[stands]);
        }
    }

    /** Counts through all plans, the last stand fastest; the years and, behind them, what the fullest year bears. */
    private static int[] allPlans(int[] yields, int[] years) {
        int stands = yields.length;
        int[] best = new int[stands + 1];
        best[stands] = Integer.MAX_VALUE;
        int plans = (int) Math.round(Math.pow(9, stands));
        for (int number = 0; number < plans; number++) {
            int[] plan = new int[stands + 1];
            int[] bears = new int[9];
            boolean allowed = true;
            int rest = number;
            for (int i = stands - 1; i >= 0; i--) {
                plan[i] = rest % 9;
                rest /= 9;
                allowed &= (years[i] & 1 << plan[i]) != 0;
                bears[plan[i]] += yields[i];
                plan[stands] = Math.max(plan[stands], bears[plan[i]]);
            }
            if (allowed && plan[stands] < best[stands]) {
                best = plan;
            }
        }
        return best;
    }
}
