/** The edges of promises 2 and 3: feed, end. */
final class TapeEdgesTest {
    private static final int BLANKS = 0x20202020;

    public static void main(String[] args) {
        twentyBytesCome();
        bytesComeBehindTheTape();
        highestByteFirst();
        noMoreThan400();
        firstBytesAlone();
        fewerThanN();
        belowZero();
        Check.finish();
    }

    /** A tape of so many blanks. */
    private static CorkForest tapeOf(int bytes) {
        CorkForest x = new CorkForest();
        for (int fed = 0; fed < bytes; fed += 20) {
            x.feed(BLANKS, BLANKS, BLANKS, BLANKS, BLANKS);
        }
        Check.due("end(" + bytes + ")", x.end(bytes), true);
        return x;
    }

    private static void twentyBytesCome() {
        Check.sentence(2, "Twenty bytes come behind the TAPE: how many it has");
        CorkForest x = new CorkForest();
        for (int fed = 20; fed <= 400; fed += 20) {
            Check.due("feed from " + (fed - 20), x.feed(0, 0, 0, 0, 0), fed);
        }
        Check.due("feed from 1", tapeOf(1).feed(0, 0, 0, 0, 0), 21);
        Check.due("feed from 19", tapeOf(19).feed(0, 0, 0, 0, 0), 39);
        CorkForest whole = new CorkForest();
        whole.feed(-1, -1, -1, -1, -1);
        Check.due("all bits are bytes too", whole.end(20), true);
        Check.due("not one more", whole.end(21), false);
    }

    private static void bytesComeBehindTheTape() {
        Check.sentence(2, "Twenty bytes come behind the TAPE");
        for (int ahead = 0; ahead <= 380; ahead += 19) {
            CorkForest x = tapeOf(ahead);
            x.feed('?' << 24, 0, 0, 0, 0);
            Check.thrown("law", Check.ARGUMENT, x::law);
            Check.due("the first of them behind " + ahead, x.fault(), ahead);
        }
    }

    private static void highestByteFirst() {
        Check.sentence(2, "of each number the highest first");
        int[] wrongBytes = {0, '?', 127, 128, 255};
        for (int place = 0; place < 20; place++) {
            for (int wrong : wrongBytes) {
                int[] fed = {BLANKS, BLANKS, BLANKS, BLANKS, BLANKS};
                int shift = 24 - 8 * (place % 4);
                fed[place / 4] = fed[place / 4] & ~(255 << shift) | wrong << shift;
                CorkForest x = new CorkForest();
                x.feed(fed[0], fed[1], fed[2], fed[3], fed[4]);
                Check.thrown("law", Check.ARGUMENT, x::law);
                Check.due("byte " + wrong + " at " + place, x.fault(), place);
            }
        }
    }

    private static void noMoreThan400() {
        Check.sentence(2, "NONE, and none come, if it would have more than 400");
        Check.due("feed from 379", tapeOf(379).feed(0, 0, 0, 0, 0), 399);
        Check.due("feed from 380", tapeOf(380).feed(0, 0, 0, 0, 0), 400);
        Twins.refused("feed from 381", () -> tapeOf(381), x -> x.feed(1, 2, 3, 4, 5), -1);
        Twins.refused("feed from 399", () -> tapeOf(399), x -> x.feed(1, 2, 3, 4, 5), -1);
        Twins.refused("feed from 400", Made::fullTape, x -> x.feed(1, 2, 3, 4, 5), -1);
        Twins.refused("feed of blanks from 400", Made::fullTape, x -> x.feed(BLANKS, 0, 0, 0, BLANKS), -1);
        CorkForest x = Made.fullTape();
        Check.due("room again", x.end(380), true);
        Check.due("feed from 380 again", x.feed(0, 0, 0, 0, 0), 400);
        CorkForest used = Made.fullTape();
        Check.thrown("law uses it up", Check.ARGUMENT, used::law);
        Check.due("feed from 0 again", used.feed(0, 0, 0, 0, 0), 20);
    }

    private static void firstBytesAlone() {
        Check.sentence(3, "The TAPE has its first n bytes alone: true");
        Check.due("end(0) of none", new CorkForest().end(0), true);
        Check.due("end(400) of 400", Made.fullTape().end(400), true);
        Check.due("end(399) of 400", Made.fullTape().end(399), true);
        CorkForest x = Made.fullTape();
        Check.due("end(0) of 400", x.end(0), true);
        Check.due("none is left", x.end(1), false);
        Check.feedText(x, "rest 12;rest 30");
        Check.due("cut within a number", x.end(6), true);
        Check.due("not uncut again", x.end(7), false);
        Check.due("law", x.law(), 1);
        Check.due("the first bytes", x.says(4), 1);
        Check.feedText(x, "rest 12;rest 30");
        Check.due("cut to all", x.end(15), true);
        Check.due("law of all", x.law(), 2);
        Check.due("all bytes", x.says(4), 30);
    }

    private static void fewerThanN() {
        Check.sentence(3, "false, and nothing happens, if it has fewer");
        Twins.refusedEach("end(#) of none", Made::empty, CorkForest::end, false, 1, 20, 400, Made.MOST);
        Twins.refusedEach("end(#) of 15", Made::rich, CorkForest::end, false, 16, 17, 20, 400, 401, Made.MOST);
        Twins.refusedEach("end(#) of 400", Made::fullTape, CorkForest::end, false, 401, 402, Made.MOST);
    }

    private static void belowZero() {
        Check.sentence(3, "false, and nothing happens, if n is below 0");
        Twins.refusedEach("end(#) of none", Made::empty, CorkForest::end, false, -1, Made.LEAST);
        Twins.refusedEach("end(#) of 15", Made::rich, CorkForest::end, false, -1, -15, Made.LEAST);
        Twins.refusedEach("end(#) of 400", Made::fullTape, CorkForest::end, false, -1, -400, Made.LEAST);
    }
}
