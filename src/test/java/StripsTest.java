import java.util.Random;

/** Promises 20 to 23: lay, sort, unsort, punch. */
final class StripsTest {
    public static void main(String[] args) {
        aNewStrip();
        punchOfSomeStrips();
        fewestStoppersOfTheGreatestWorth();
        stoppersFromTheLongestStrip();
        punchAgainstAllWays();
        Check.finish();
    }

    private static void aNewStrip() {
        CorkForest x = new CorkForest();
        Check.due("cells", x.count(6), 1);
        Check.due("flaws", x.count(7), 0);
        Check.due("punch without sorts", x.punch(false), 0);
        Check.due("how many without sorts", x.punch(true), 0);
        x.sort(1, 5, 0);
        Check.due("punch", x.punch(false), 5);
        Check.due("how many", x.punch(true), 1);
    }

    private static void punchOfSomeStrips() {
        CorkForest x = new CorkForest();
        x.lay(10, 0b0000100000, 0);
        x.sort(4, 10, 0);
        Check.due("around a flaw", x.punch(false), 20);
        x.lay(10, 0b0000010000, 0);
        Check.due("at both sides", x.punch(false), 20);
        x.lay(10, 0b0001001000, 0);
        Check.due("nowhere", x.punch(false), 0);
        x.unsort();
        x.sort(4, 10, 1);
        Check.due("one flaw each", x.punch(false), 20);
        x.lay(3, 0, 0);
        Check.due("longer than the strip", x.punch(false), 0);
        Check.due("no stopper", x.punch(true), 0);
        x.lay(60, 1 << 29, 1);
        x.unsort();
        x.sort(2, 7, 2);
        x.sort(2, 5, 1);
        Check.due("over both numbers", x.punch(false), 30 * 7);
    }

    private static void fewestStoppersOfTheGreatestWorth() {
        CorkForest x = new CorkForest();
        x.lay(6, 0, 0);
        x.sort(1, 2, 0);
        x.sort(3, 6, 0);
        x.sort(2, 4, 0);
        Check.due("punch", x.punch(false), 12);
        Check.due("two of three cells", x.punch(true), 2);
        x.sort(4, 0, 12);
        Check.due("those without worth are left", x.punch(true), 2);
        x.sort(6, 11, 0);
        Check.due("fewer of less worth do not count", x.punch(true), 2);
        x.sort(6, 12, 0);
        Check.due("one of six", x.punch(true), 1);
    }

    private static void stoppersFromTheLongestStrip() {
        CorkForest x = new CorkForest();
        x.lay(60, -1, -1);
        x.sort(1, 1000, 0);
        Check.due("flaws everywhere", x.punch(false), 0);
        x.sort(1, 1000, 1);
        Check.due("punch", x.punch(false), 60000);
        Check.due("how many", x.punch(true), 60);
        x.sort(12, 1000, 12);
        Check.due("twelve flaws are too dear", x.punch(false), 60000);
        x.unsort();
        x.sort(12, 1000, 12);
        Check.due("five of twelve", x.punch(false), 5000);
        Check.due("five", x.punch(true), 5);
    }

    private static void punchAgainstAllWays() {
        Random random = new Random(11);
        for (int run = 0; run < 3000; run++) {
            CorkForest x = new CorkForest();
            int cells = 1 + random.nextInt(12);
            int shift = random.nextInt(2) * random.nextInt(48);
            long flaws = (random.nextInt() & random.nextInt() & (1L << cells) - 1) << shift;
            // The cells ahead of the shift are flaws, so that only the last ones can bear a stopper.
            flaws |= (1L << shift) - 1;
            x.lay(cells + shift, (int) (flaws & (1L << 30) - 1), (int) (flaws >> 30));
            int sorts = random.nextInt(5);
            int[][] sort = new int[sorts][];
            for (int i = 0; i < sorts; i++) {
                int size = 1 + random.nextInt(5);
                sort[i] = new int[] {size, random.nextInt(8), random.nextInt(shift == 0 ? 4 : 1)};
                x.sort(sort[i][0], sort[i][1], sort[i][2]);
            }
            long want = allWays(cells + shift, flaws, sort, shift);
            Check.due("punch of run " + run, x.punch(false), want >> 8);
            Check.due("how many of run " + run, x.punch(true), 255 - (want & 255));
        }
    }

    /** The greatest of worth * 256 + 255 - stoppers over every way to lay stoppers from this cell on. */
    private static long allWays(int cells, long flaws, int[][] sorts, int from) {
        if (from >= cells) {
            return 255;
        }
        long best = allWays(cells, flaws, sorts, from + 1);
        for (int[] sort : sorts) {
            int flawed = 0;
            for (int i = from; i < from + sort[0]; i++) {
                flawed += (int) (flaws >> i & 1);
            }
            if (from + sort[0] <= cells && flawed <= sort[2]) {
                best = Math.max(best, allWays(cells, flaws, sorts, from + sort[0]) + sort[1] * 256L - 1);
            }
        }
        return best;
    }
}
