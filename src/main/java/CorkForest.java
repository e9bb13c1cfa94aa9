import java.util.ArrayList;
import java.util.NoSuchElementException;

/** A forest of cork oaks, as the document tells it; README.md says how it is used. */
public final class CorkForest {
    public static final int NONE = -1;

    private static final int MOST_TREES = 40;
    private static final int LEAST_GIRTH = 20;
    private static final int MOST_GIRTH = 600;
    private static final int MOST_BARK = 3000;
    private static final int AGE_IF_NEVER_STRIPPED = 20;
    private static final int MOST_YEARS_A_CALL = 50;
    private static final int MOST_RAIN = 200;
    private static final int MOST_STRIP_HEIGHT = 3000;
    private static final int MOST_PLANKS = 200;

    private static final int MOST_LOTS = 40;
    private static final int MOST_MONEY = 1000000;
    private static final int BIDDERS = 8;

    private static final int MOST_CELLS = 60;
    private static final int CELLS_IN_LOW = 30;
    private static final int MOST_SORTS = 6;
    private static final int MOST_STOPPER_SIZE = 12;
    private static final int MOST_STOPPER_WORTH = 1000;
    private static final int MOST_STOPPER_FLAWS = 12;

    private static final int MOST_STANDS = 6;
    private static final int MOST_YIELD = 1000000;
    private static final int YEARS_OF_A_PLAN = 9;
    private static final int ALL_YEARS_OF_A_PLAN = 511;

    private static final int MOST_TAPE = 400;
    private static final int TAPE_STEP = 20;

    private static final int LAW_YEARS = 0;
    private static final int LAW_GIRTH = 1;
    private static final int LAW_HEIGHT = 2;
    private static final int LAW_FIRST = 3;
    private static final int LAW_REST = 4;
    private static final int LAW_THICK = 5;
    private static final int LAW_KINDS = 6;
    private static final int[] LAW_AT_FIRST = {9, 70, 250, 200, 5, 270};
    private static final int[] LAW_MOST = {50, 600, 400, 400, 30, 3000};

    private final Tape tape;
    private final Law law;
    private final ArrayList<Tree> trees;
    private final ArrayList<Plank> planks;
    private final ArrayList<Lot> lots;
    private final Bench bench;
    private final Stands stands;
    private int year;
    private int wrongByte;

    public CorkForest() {
        tape = new Tape();
        law = new Law();
        trees = new ArrayList<Tree>();
        planks = new ArrayList<Plank>();
        lots = new ArrayList<Lot>();
        bench = new Bench();
        stands = new Stands();
        year = 0;
        wrongByte = NONE;
    }

    public int feed(int a, int b, int c, int d, int e) {
        if (tape.size() + TAPE_STEP > MOST_TAPE) {
            return NONE;
        }
        tape.append(a);
        tape.append(b);
        tape.append(c);
        tape.append(d);
        tape.append(e);
        return tape.size();
    }

    public boolean end(int n) {
        return tape.cutTo(n);
    }

    public int tree(int girth) throws IllegalArgumentException, UnsupportedOperationException {
        if (girth < LEAST_GIRTH || girth > MOST_GIRTH) {
            throw new IllegalArgumentException("no such girth");
        }
        if (trees.size() >= MOST_TREES) {
            throw new UnsupportedOperationException("no room for a tree");
        }
        trees.add(new Tree(girth));
        return trees.size() - 1;
    }

    public int years(int n, int rain) throws IllegalArgumentException {
        if (n < 0 || n > MOST_YEARS_A_CALL) {
            throw new IllegalArgumentException("no such number of years");
        }
        if (rain < 0 || rain > MOST_RAIN) {
            throw new IllegalArgumentException("no such rain");
        }
        for (int i = 0; i < n; i++) {
            passYear(rain);
        }
        return year;
    }

    public int law() throws IllegalArgumentException {
        LawReader reader = new LawReader(tape, law);
        int clauses = reader.readText();
        tape.cutTo(0);
        if (clauses == NONE) {
            wrongByte = reader.place();
            throw new IllegalArgumentException("the text is wrong");
        }
        wrongByte = NONE;
        return clauses;
    }

    public int fault() {
        return wrongByte;
    }

    public int says(int what) throws NoSuchElementException {
        if (what < 0 || what >= LAW_KINDS) {
            throw new NoSuchElementException("the law has no such clause");
        }
        return law.told(what);
    }

    public boolean mark(int tree) throws IndexOutOfBoundsException {
        Tree oak = treeAt(tree);
        boolean was = oak.marked;
        oak.marked = true;
        return !was;
    }

    public int strip(int tree, int h) throws IndexOutOfBoundsException, IllegalArgumentException {
        Tree oak = treeAt(tree);
        if (h < 1 || h > MOST_STRIP_HEIGHT) {
            throw new IllegalArgumentException("no such height");
        }
        int against = whatIsAgainst(oak, h);
        if (against != 0) {
            return -against;
        }
        planks.add(new Plank(tree, year, h, oak.girth, oak.bark));
        oak.loseBarkToPlank(year, h);
        return planks.size() - 1;
    }

    public int wound(int tree) throws IndexOutOfBoundsException {
        Tree oak = treeAt(tree);
        oak.rests = year + law.told(LAW_REST);
        return oak.rests;
    }

    public int fire(int tree) throws IndexOutOfBoundsException {
        return treeAt(tree).loseBarkToFire(year);
    }

    public int look(int tree, int what) throws IndexOutOfBoundsException, NoSuchElementException {
        Tree oak = treeAt(tree);
        switch (what) {
            case 0:
                return oak.girth;
            case 1:
                return oak.bark;
            case 2:
                return oak.stripped;
            case 3:
                return oak.high;
            case 4:
                return oak.rests;
            case 5:
                return oak.marked ? 1 : 0;
            case 6:
                return oak.grown;
            case 7:
                return oak.inPlanks;
            case 8:
                return oak.burnt;
            case 9:
                return oak.shed;
            default:
                throw new NoSuchElementException("a tree has no such thing");
        }
    }

    public int plank(int plank, int what) throws IndexOutOfBoundsException, NoSuchElementException {
        Plank board = plankAt(plank);
        switch (what) {
            case 0:
                return board.tree;
            case 1:
                return board.year;
            case 2:
                return board.high;
            case 3:
                return board.wide;
            case 4:
                return board.thick;
            case 5:
                return board.lot;
            default:
                throw new NoSuchElementException("a plank has no such thing");
        }
    }

    public int lot(int floor) throws IllegalArgumentException, UnsupportedOperationException {
        if (floor < 0 || floor > MOST_MONEY) {
            throw new IllegalArgumentException("no such floor");
        }
        if (lots.size() >= MOST_LOTS) {
            throw new UnsupportedOperationException("no room for a lot");
        }
        lots.add(new Lot(floor));
        return lots.size() - 1;
    }

    public boolean put(int lot, int plank) throws IndexOutOfBoundsException {
        Lot goods = lotAt(lot);
        Plank board = plankAt(plank);
        if (board.lot != NONE || goods.isSold()) {
            return false;
        }
        board.lot = lot;
        goods.take(board);
        return true;
    }

    public boolean bid(int lot, int bidder, int money) throws IndexOutOfBoundsException, IllegalArgumentException {
        Lot goods = lotAt(lot);
        if (bidder < 0 || bidder >= BIDDERS) {
            throw new IllegalArgumentException("no such bidder");
        }
        if (money < 0 || money > MOST_MONEY) {
            throw new IllegalArgumentException("no such money");
        }
        if (goods.isSold() || money < goods.floor) {
            return false;
        }
        goods.bids[bidder] = money;
        return true;
    }

    public int sell(int lot) throws IndexOutOfBoundsException {
        Lot goods = lotAt(lot);
        if (goods.isSold()) {
            return NONE;
        }
        goods.goToGreatestBid();
        return goods.buyer;
    }

    public int offer(int lot, int what) throws IndexOutOfBoundsException, NoSuchElementException {
        Lot goods = lotAt(lot);
        switch (what) {
            case 0:
                return goods.floor;
            case 1:
                return goods.boards;
            case 2:
                return goods.weight;
            case 3:
                return goods.buyer;
            case 4:
                return goods.price;
            default:
                throw new NoSuchElementException("a lot has no such thing");
        }
    }

    public void lay(int cells, int low, int high) throws IllegalArgumentException {
        if (cells < 1 || cells > MOST_CELLS) {
            throw new IllegalArgumentException("no such number of cells");
        }
        bench.layStrip(cells, low, high);
    }

    public int sort(int size, int worth, int flaws) throws IllegalArgumentException {
        if (size < 1 || size > MOST_STOPPER_SIZE) {
            throw new IllegalArgumentException("no such size");
        }
        if (worth < 0 || worth > MOST_STOPPER_WORTH) {
            throw new IllegalArgumentException("no such worth");
        }
        if (flaws < 0 || flaws > MOST_STOPPER_FLAWS) {
            throw new IllegalArgumentException("no such number of flaws");
        }
        return bench.addSort(size, worth, flaws);
    }

    public int unsort() {
        return bench.dropSorts();
    }

    public int punch(boolean many) {
        bench.layStoppers();
        return many ? bench.fewestStoppers() : bench.greatestWorth();
    }

    public int stand(int heavy, int years) throws IllegalArgumentException {
        if (heavy < 0 || heavy > MOST_YIELD) {
            throw new IllegalArgumentException("no such yield");
        }
        if (years < 1 || years > ALL_YEARS_OF_A_PLAN) {
            throw new IllegalArgumentException("no such set of years");
        }
        return stands.addStand(heavy, years);
    }

    public int even() {
        return stands.leastBurden();
    }

    public int plan(int stand) throws IndexOutOfBoundsException {
        if (stand < 0 || stand >= stands.size()) {
            throw new IndexOutOfBoundsException("no such stand");
        }
        return stands.yearOf(stand);
    }

    public int count(int what) {
        switch (what) {
            case 0:
                return year;
            case 1:
                return trees.size();
            case 2:
                return planks.size();
            case 3:
                return lots.size();
            case 4:
                return soldLots();
            case 5:
                return moneyOfSoldLots();
            case 6:
                return bench.cells();
            case 7:
                return bench.flawsOfStrip();
            case 8:
                return bench.sorts();
            case 9:
                return stands.size();
            case 10:
                return markedTrees();
            default:
                return NONE;
        }
    }

    private Tree treeAt(int number) {
        if (number < 0 || number >= trees.size()) {
            throw new IndexOutOfBoundsException("no such tree");
        }
        return trees.get(number);
    }

    private Plank plankAt(int number) {
        if (number < 0 || number >= planks.size()) {
            throw new IndexOutOfBoundsException("no such plank");
        }
        return planks.get(number);
    }

    private Lot lotAt(int number) {
        if (number < 0 || number >= lots.size()) {
            throw new IndexOutOfBoundsException("no such lot");
        }
        return lots.get(number);
    }

    private void passYear(int rain) {
        year++;
        for (int i = 0; i < trees.size(); i++) {
            trees.get(i).grow(year, rain);
        }
    }

    /** The number of the first thing against stripping this tree so high; 0 if there is none. */
    private int whatIsAgainst(Tree oak, int h) {
        if (!oak.marked) {
            return 1;
        }
        if (oak.rests != NONE && year <= oak.rests) {
            return 2;
        }
        if (oak.wasStripped() && year - oak.stripped < law.told(LAW_YEARS)) {
            return 3;
        }
        if (oak.girth < law.told(LAW_GIRTH)) {
            return 4;
        }
        if (oak.bark < law.told(LAW_THICK)) {
            return 5;
        }
        if (h > heightAllowed(oak)) {
            return 6;
        }
        return planks.size() >= MOST_PLANKS ? 7 : 0;
    }

    private int heightAllowed(Tree oak) {
        int share = law.told(oak.wasStripped() ? LAW_HEIGHT : LAW_FIRST);
        return oak.girth * share / 100;
    }

    private int soldLots() {
        int sold = 0;
        for (int i = 0; i < lots.size(); i++) {
            if (lots.get(i).isSold()) {
                sold++;
            }
        }
        return sold;
    }

    private int moneyOfSoldLots() {
        int money = 0;
        for (int i = 0; i < lots.size(); i++) {
            Lot goods = lots.get(i);
            if (goods.isSold()) {
                money += goods.price;
            }
        }
        return money;
    }

    private int markedTrees() {
        int marked = 0;
        for (int i = 0; i < trees.size(); i++) {
            if (trees.get(i).marked) {
                marked++;
            }
        }
        return marked;
    }

    /** The bytes that have been fed and not yet used up. */
    private static final class Tape {
        private final byte[] bytes = new byte[MOST_TAPE];
        private int size = 0;

        int size() {
            return size;
        }

        void append(int number) {
            for (int shift = 24; shift >= 0; shift -= 8) {
                if (size < bytes.length) {
                    bytes[size] = (byte) (number >>> shift);
                    size++;
                }
            }
        }

        boolean cutTo(int n) {
            if (n < 0 || n > size) {
                return false;
            }
            size = n;
            return true;
        }

        /** NONE behind the end, so that a reader need not ask for the end by itself. */
        int at(int place) {
            return place >= 0 && place < size ? bytes[place] & 255 : NONE;
        }
    }

    /** What the law says, by the numbers that says() has for its clauses. */
    private static final class Law {
        private final int[] values = LAW_AT_FIRST.clone();

        int told(int kind) {
            return kind >= 0 && kind < values.length ? values[kind] : NONE;
        }

        void copyTo(int[] draft) {
            for (int i = 0; i < values.length && i < draft.length; i++) {
                draft[i] = values[i];
            }
        }

        void become(int[] draft) {
            for (int i = 0; i < values.length && i < draft.length; i++) {
                values[i] = draft[i];
            }
        }

        static String word(int kind) {
            switch (kind) {
                case LAW_YEARS:
                    return "years";
                case LAW_GIRTH:
                    return "girth";
                case LAW_HEIGHT:
                    return "height";
                case LAW_FIRST:
                    return "first";
                case LAW_REST:
                    return "rest";
                case LAW_THICK:
                    return "thick";
                default:
                    return "";
            }
        }
    }

    /** Reads the tape once as a law's text; it stops at the begin of the first thing that cannot stand there. */
    private static final class LawReader {
        private static final int BLANK = 32;
        private static final int MOST_DIGITS = 4;

        private final Tape text;
        private final Law law;
        private final int[] draft = new int[LAW_KINDS];
        private int place = 0;

        LawReader(Tape text, Law law) {
            this.text = text;
            this.law = law;
        }

        int place() {
            return place;
        }

        /** How many clauses there are; NONE, and the law stays, if the text is wrong. */
        int readText() {
            law.copyTo(draft);
            for (int clauses = 1; clauses <= MOST_TAPE; clauses++) {
                if (!readClause()) {
                    return NONE;
                }
                skipBlanks();
                if (place >= text.size()) {
                    law.become(draft);
                    return clauses;
                }
                if (text.at(place) != ';') {
                    return NONE;
                }
                place++;
            }
            return NONE;
        }

        private boolean readClause() {
            skipBlanks();
            int behindWord = behindRun('a', 'z');
            int kind = kindOfWord(behindWord);
            if (kind < 0 || kind >= LAW_KINDS) {
                return false;
            }
            place = behindWord;
            skipBlanks();
            int behindNumber = behindRun('0', '9');
            int number = numberUpTo(behindNumber);
            if (number == NONE || number > LAW_MOST[kind]) {
                return false;
            }
            draft[kind] = number;
            place = behindNumber;
            return true;
        }

        private void skipBlanks() {
            while (place < text.size() && text.at(place) == BLANK) {
                place++;
            }
        }

        private int behindRun(char least, char most) {
            int behind = place;
            while (behind < text.size() && text.at(behind) >= least && text.at(behind) <= most) {
                behind++;
            }
            return behind;
        }

        private int kindOfWord(int behind) {
            for (int kind = 0; kind < LAW_KINDS; kind++) {
                if (isWord(Law.word(kind), behind)) {
                    return kind;
                }
            }
            return NONE;
        }

        private boolean isWord(String word, int behind) {
            if (behind - place != word.length()) {
                return false;
            }
            for (int i = 0; i < word.length(); i++) {
                if (text.at(place + i) != word.charAt(i)) {
                    return false;
                }
            }
            return true;
        }

        private int numberUpTo(int behind) {
            int digits = behind - place;
            if (digits < 1 || digits > MOST_DIGITS) {
                return NONE;
            }
            int number = 0;
            for (int i = place; i < behind; i++) {
                number = 10 * number + (text.at(i) - '0');
            }
            return number;
        }
    }

    private static final class Tree {
        private int girth;
        private int bark = 0;
        private int stripped = NONE;
        private int high = 0;
        private int rests = NONE;
        private boolean marked = false;
        private int grown = 0;
        private int inPlanks = 0;
        private int burnt = 0;
        private int shed = 0;

        Tree(int girth) {
            this.girth = girth;
        }

        boolean wasStripped() {
            return stripped != NONE;
        }

        void grow(int year, int rain) {
            girth = Math.min(MOST_GIRTH, girth + 1 + rain / 100);
            int age = wasStripped() ? year - stripped : AGE_IF_NEVER_STRIPPED;
            int growth = Math.max(10, 40 - 2 * age) * (50 + rain) / 100;
            grown += growth;
            bark += growth;
            if (bark > MOST_BARK) {
                shed += bark - MOST_BARK;
                bark = MOST_BARK;
            }
        }

        void loseBarkToPlank(int year, int h) {
            inPlanks += bark;
            bare(year, h);
        }

        int loseBarkToFire(int year) {
            int lost = bark;
            burnt += lost;
            bare(year, 0);
            return lost;
        }

        private void bare(int year, int h) {
            bark = 0;
            stripped = year;
            high = h;
            marked = false;
        }
    }

    private static final class Plank {
        private final int tree;
        private final int year;
        private final int high;
        private final int wide;
        private final int thick;
        private int lot = NONE;

        Plank(int tree, int year, int high, int wide, int thick) {
            this.tree = tree;
            this.year = year;
            this.high = high;
            this.wide = wide;
            this.thick = thick;
        }

        /** In long, because the product goes beyond 32 bits before it is divided. */
        int weight() {
            return (int) ((long) high * wide * thick / 1000);
        }
    }

    private static final class Lot {
        private final int floor;
        private final int[] bids = {NONE, NONE, NONE, NONE, NONE, NONE, NONE, NONE};
        private int boards = 0;
        private int weight = 0;
        private int buyer = NONE;
        private int price = NONE;

        Lot(int floor) {
            this.floor = floor;
        }

        boolean isSold() {
            return buyer != NONE;
        }

        void take(Plank board) {
            boards++;
            weight += board.weight();
        }

        /** Without a bid there is no buyer, and the lot stays unsold. */
        void goToGreatestBid() {
            int greatest = NONE;
            int second = NONE;
            for (int bidder = 0; bidder < bids.length; bidder++) {
                if (bids[bidder] > greatest) {
                    second = greatest;
                    greatest = bids[bidder];
                    buyer = bidder;
                } else if (bids[bidder] > second) {
                    second = bids[bidder];
                }
            }
            if (isSold()) {
                price = second == NONE ? floor : second;
            }
        }
    }

    /** The strip that lies there, and the sorts of stoppers that are punched from it. */
    private static final class Bench {
        private final int[] sizes = new int[MOST_SORTS];
        private final int[] worths = new int[MOST_SORTS];
        private final int[] flawsAllowed = new int[MOST_SORTS];
        private final int[] bestWorth = new int[MOST_CELLS + 1];
        private final int[] fewest = new int[MOST_CELLS + 1];
        private int sorts = 0;
        private int cells = 1;
        private long flaws = 0;

        int cells() {
            return cells;
        }

        int sorts() {
            return sorts;
        }

        int flawsOfStrip() {
            return Long.bitCount(flaws);
        }

        void layStrip(int length, int low, int high) {
            long told = (low & lowest(CELLS_IN_LOW)) | (high & lowest(CELLS_IN_LOW)) << CELLS_IN_LOW;
            cells = length;
            flaws = told & lowest(length);
        }

        int addSort(int size, int worth, int flawsOfSort) {
            if (sorts >= MOST_SORTS) {
                return NONE;
            }
            sizes[sorts] = size;
            worths[sorts] = worth;
            flawsAllowed[sorts] = flawsOfSort;
            sorts++;
            return sorts - 1;
        }

        int dropSorts() {
            int dropped = sorts;
            sorts = 0;
            return dropped;
        }

        int greatestWorth() {
            return bestWorth[cells];
        }

        int fewestStoppers() {
            return fewest[cells];
        }

        /** Works out the best of the first 0, 1, 2 .. cells, each from the shorter ones. */
        void layStoppers() {
            bestWorth[0] = 0;
            fewest[0] = 0;
            for (int behind = 1; behind <= cells && behind <= MOST_CELLS; behind++) {
                bestWorth[behind] = bestWorth[behind - 1];
                fewest[behind] = fewest[behind - 1];
                for (int sort = 0; sort < sorts && sort < MOST_SORTS; sort++) {
                    tryLast(sort, behind);
                }
            }
        }

        private void tryLast(int sort, int behind) {
            int begin = behind - sizes[sort];
            if (begin < 0 || flawsBetween(begin, behind) > flawsAllowed[sort]) {
                return;
            }
            int worth = bestWorth[begin] + worths[sort];
            int stoppers = fewest[begin] + 1;
            if (worth > bestWorth[behind] || worth == bestWorth[behind] && stoppers < fewest[behind]) {
                bestWorth[behind] = worth;
                fewest[behind] = stoppers;
            }
        }

        private int flawsBetween(int begin, int behind) {
            return Long.bitCount(flaws >>> begin & lowest(behind - begin));
        }

        private static long lowest(int bits) {
            return (1L << bits) - 1;
        }
    }

    private static final class Stands {
        private final int[] yields = new int[MOST_STANDS];
        private final int[] allowed = new int[MOST_STANDS];
        private final int[] bears = new int[YEARS_OF_A_PLAN];
        private final int[] tried = new int[MOST_STANDS];
        private final int[] best = new int[MOST_STANDS];
        private int size = 0;
        private int least = 0;
        private boolean known = true;

        int size() {
            return size;
        }

        int addStand(int heavy, int years) {
            if (size >= MOST_STANDS) {
                return NONE;
            }
            yields[size] = heavy;
            allowed[size] = years;
            size++;
            known = false;
            return size - 1;
        }

        int leastBurden() {
            search();
            return least;
        }

        int yearOf(int stand) {
            search();
            return stand >= 0 && stand < best.length ? best[stand] : NONE;
        }

        /** The plan changes with the stands alone, so it is kept until one more comes. */
        private void search() {
            if (known) {
                return;
            }
            least = Integer.MAX_VALUE;
            tryFrom(0, greatestYield());
            known = true;
        }

        /** No plan can be below this; a search that has reached it finds nothing more to try. */
        private int greatestYield() {
            int greatest = 0;
            for (int stand = 0; stand < size; stand++) {
                greatest = Math.max(greatest, yields[stand]);
            }
            return greatest;
        }

        /**
         * Goes through the plans in the order in which the least years come first, so the first one that reaches the
         * least burden is the one to keep: only a smaller burden takes its place.
         */
        private void tryFrom(int stand, int burden) {
            if (stand >= size || stand >= MOST_STANDS) {
                keepTried(burden);
                return;
            }
            for (int year = 0; year < YEARS_OF_A_PLAN; year++) {
                if ((allowed[stand] >> year & 1) == 1) {
                    tryYear(stand, year, burden);
                }
            }
        }

        private void tryYear(int stand, int year, int burden) {
            int before = bears[year];
            int greatest = Math.max(burden, before + yields[stand]);
            if (greatest < least) {
                tried[stand] = year;
                bears[year] = before + yields[stand];
                tryFrom(stand + 1, greatest);
                bears[year] = before;
            }
        }

        private void keepTried(int burden) {
            least = burden;
            for (int stand = 0; stand < size; stand++) {
                best[stand] = tried[stand];
            }
        }
    }
}
