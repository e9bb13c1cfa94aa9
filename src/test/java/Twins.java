import java.util.ArrayList;
import java.util.List;

/**
 * A refused call changes nothing, as far as other calls can show it: of two forests made alike one hears the call, and
 * then both must answer alike whatever is asked. The questions come in rounds, each asked of two new forests, because
 * some change what they ask about, and because an object is used for at most 512 calls.
 */
final class Twins {
    private static final int BIDDERS = 8;
    private static final int MOST_MONEY = 1000000;
    private static final int BLANKS = 0x20202020;

    /** Makes a forest, always by the same calls. */
    interface Maker {
        CorkForest make();
    }

    interface Call {
        Object on(CorkForest x);
    }

    interface CallWith {
        Object on(CorkForest x, int number);
    }

    private Twins() {
    }

    /** The call answers (or, if due is a class, throws) what is due, and nothing has changed. */
    static void refused(String told, Maker made, Call call, Object due) {
        for (List<Call> round : rounds(made.make(), true)) {
            CorkForest heard = made.make();
            Check.same(told, answer(heard, call), due);
            compare(told, heard, made.make(), round);
        }
    }

    /** As refused, for each of the numbers; told has a # where the number stands. */
    static void refusedEach(String told, Maker made, CallWith call, Object due, int... numbers) {
        for (int number : numbers) {
            refused(told.replace("#", "" + number), made, x -> call.on(x, number), due);
        }
    }

    /** A wrong text: law() throws, the tape is empty, the fault is told, and nothing else has changed. */
    static void refusedLaw(String text, Maker made, int fault) {
        String told = "law of '" + text + "'";
        for (List<Call> round : rounds(made.make(), false)) {
            CorkForest heard = made.make();
            heard.end(0);
            Check.lawFails(heard, text, fault);
            CorkForest other = made.make();
            other.end(0);
            compare(told, heard, other, round);
        }
    }

    /** What the call answers, or what it throws. */
    static Object answer(CorkForest x, Call call) {
        try {
            return call.on(x);
        } catch (RuntimeException e) {
            return Check.toldOf(e);
        }
    }

    static Call lay(int cells, int low, int high) {
        return x -> {
            x.lay(cells, low, high);
            return null;
        };
    }

    private static void compare(String told, CorkForest heard, CorkForest other, List<Call> round) {
        for (int i = 0; i < round.size(); i++) {
            Object got = answer(heard, round.get(i));
            Object want = answer(other, round.get(i));
            Check.same(told + ", question " + i + " of " + round.size() + " behind it", got, want);
        }
    }

    private static List<List<Call>> rounds(CorkForest x, boolean withFault) {
        List<List<Call>> rounds = new ArrayList<>();
        rounds.add(counts(withFault));
        askEach(rounds, x.count(1), 10, CorkForest::look);
        askEach(rounds, x.count(2), 6, CorkForest::plank);
        askEach(rounds, x.count(3), 5, CorkForest::offer);
        rounds.add(lengthOfTape());
        rounds.add(textOfTape());
        for (int lot = 0; lot < x.count(3); lot++) {
            askBids(rounds, lot, x.offer(lot, 0));
        }
        rounds.add(sortsOnOtherStrips());
        rounds.add(stripWithOtherSorts());
        for (int year = 0; year < 9; year++) {
            rounds.add(planWithOneMoreStand(1 << year));
        }
        return rounds;
    }

    private static List<Call> counts(boolean withFault) {
        List<Call> round = new ArrayList<>();
        for (int i = 0; i <= 10; i++) {
            int what = i;
            round.add(x -> x.count(what));
        }
        for (int i = 0; i < 6; i++) {
            int what = i;
            round.add(x -> x.says(what));
            round.add(x -> x.plan(what));
        }
        round.add(x -> x.punch(false));
        round.add(x -> x.punch(true));
        round.add(CorkForest::even);
        if (withFault) {
            round.add(CorkForest::fault);
        }
        return round;
    }

    private interface Asked {
        int on(CorkForest x, int thing, int what);
    }

    private static void askEach(List<List<Call>> rounds, int things, int whats, Asked asked) {
        List<Call> round = new ArrayList<>();
        for (int i = 0; i < things * whats; i++) {
            int thing = i / whats;
            int what = i % whats;
            round.add(x -> asked.on(x, thing, what));
            if (round.size() == 60 || i == things * whats - 1) {
                rounds.add(round);
                round = new ArrayList<>();
            }
        }
    }

    /** Its length is told by a feed up to 380, and by the cuts beyond. */
    private static List<Call> lengthOfTape() {
        List<Call> round = new ArrayList<>();
        round.add(x -> x.feed(0, 0, 0, 0, 0));
        for (int i = 400; i > 380; i--) {
            int n = i;
            round.add(x -> x.end(n));
        }
        return round;
    }

    private static List<Call> textOfTape() {
        List<Call> round = new ArrayList<>();
        round.add(CorkForest::law);
        round.add(CorkForest::fault);
        for (int i = 0; i < 6; i++) {
            int what = i;
            round.add(x -> x.says(what));
        }
        round.add(x -> x.feed(BLANKS, BLANKS, BLANKS, BLANKS, BLANKS));
        return round;
    }

    /** What each bidder bid is told by the price, when another one bids most and all others no more than the floor. */
    private static void askBids(List<List<Call>> rounds, int lot, int floor) {
        List<Call> plain = new ArrayList<>();
        sellAndLook(plain, lot);
        rounds.add(plain);
        for (int asked = 0; asked < BIDDERS; asked++) {
            List<Call> round = new ArrayList<>();
            for (int i = 1; i < BIDDERS; i++) {
                int bidder = (asked + i) % BIDDERS;
                int money = i == 1 ? MOST_MONEY : floor;
                round.add(x -> x.bid(lot, bidder, money));
            }
            sellAndLook(round, lot);
            rounds.add(round);
        }
    }

    private static void sellAndLook(List<Call> round, int lot) {
        round.add(x -> x.sell(lot));
        round.add(x -> x.offer(lot, 3));
        round.add(x -> x.offer(lot, 4));
    }

    private static List<Call> sortsOnOtherStrips() {
        List<Call> round = new ArrayList<>();
        for (int cells = 1; cells <= 13; cells++) {
            round.add(lay(cells, 0, 0));
            round.add(x -> x.punch(false));
            round.add(x -> x.punch(true));
        }
        for (int flaws = 0; flaws <= 12; flaws++) {
            round.add(lay(12, (1 << flaws) - 1, 0));
            round.add(x -> x.punch(false));
        }
        return round;
    }

    private static List<Call> stripWithOtherSorts() {
        List<Call> round = new ArrayList<>();
        for (int i = 0; i < 24; i++) {
            int size = 1 + i / 2;
            int flaws = i % 2;
            round.add(CorkForest::unsort);
            round.add(x -> x.sort(size, 1, flaws));
            round.add(x -> x.punch(false));
        }
        return round;
    }

    private static List<Call> planWithOneMoreStand(int years) {
        List<Call> round = new ArrayList<>();
        round.add(x -> x.stand(1, years));
        round.add(CorkForest::even);
        for (int i = 0; i < 6; i++) {
            int stand = i;
            round.add(x -> x.plan(stand));
        }
        return round;
    }
}
