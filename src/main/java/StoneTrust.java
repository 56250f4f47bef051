import java.util.Arrays;

/** Weights nobody trusts: what stones can truly weigh by the weighings that are told of them. */
public final class StoneTrust {
    public static final int NONE = -1;

    private static final int SPENT = -2;
    private static final int NO_DEBT = -2000000000;

    private static final int MOST_BYTES = 1300;
    private static final int FED_BYTES = 20;
    private static final int MOST_STONES = 6;
    private static final int TOWNS = 2;
    private static final int MOST_WEIGH_LINES = 16;
    private static final int MOST_SALES = 10;
    private static final int MOST_OTHERS = 30;
    private static final int TRADERS = 10;
    private static final int YEARS = 10;
    private static final int LONGEST_WAIT = 1000;
    private static final int LAST_TIME = 100000;

    private static final int MOST_WAYS = 300000;
    private static final int MOST_THUMB_WAYS = 20000;
    private static final int MOST_THUMB_TRADERS = 6;
    private static final int MOST_NEXT_FITS = 2000;
    private static final int MOST_CLEAR_FITS = 150;

    private static final int LEFT_ARM = 100;
    private static final int LEFT = 0;
    private static final int RIGHT = 1;
    private static final int EVEN = 2;

    private static final int NO_TOKEN = 1;
    private static final int OUT_OF_PLACE = 2;
    private static final int TOLD_ALREADY = 3;
    private static final int CANNOT_BE = 4;
    private static final int NO_STONE = 5;

    private Village village = new Village();
    private final Reader reader = new Reader();
    private final Weighings others = new Weighings(MOST_OTHERS);
    private int time = 0;
    private int doubted = 0;
    private final Search search = new Search();
    private final Fits found = search.found;
    private final Trials trials = new Trials();
    private final Range range = new Range();

    public StoneTrust() {
    }

    public int feed(int a, int b, int c, int d, int e) {
        Tape tape = reader.tape;
        if (tape.length + FED_BYTES > MOST_BYTES) {
            return NONE;
        }
        tape.putFour(a);
        tape.putFour(b);
        tape.putFour(c);
        tape.putFour(d);
        tape.putFour(e);
        return tape.length;
    }

    public int end(int n) {
        if (n < 0 || n > reader.tape.length) {
            return NONE;
        }
        reader.tape.length = n;
        return n;
    }

    public int village() {
        int lines = reader.read();
        if (lines < 0) {
            return NONE;
        }
        village = reader.swapFor(village);
        reader.tape.length = 0;
        others.size = 0;
        doubted = 0;
        found.forget();
        return lines;
    }

    public int fault(int what) {
        if (what == 0) {
            return reader.fault;
        }
        return what == 1 ? reader.faultPlace : NONE;
    }

    public int weighed(int left, int right, int year, int trader, int how) {
        if (!canWeigh(left, right) || !isYear(year) || !isTrader(trader)) {
            return NONE;
        }
        if (how < LEFT || how > EVEN || others.size >= MOST_OTHERS) {
            return NONE;
        }
        int number = others.size;
        others.put(left, right, year, trader, how);
        others.setTold(number, time);
        return number;
    }

    public boolean untell(int weighing) {
        return others.setUntold(weighing, time);
    }

    public int later(int by) {
        if (by < 0 || by > LONGEST_WAIT || time + by > LAST_TIME) {
            return NONE;
        }
        time += by;
        return time;
    }

    public boolean doubt(int trader, boolean is) {
        if (!isTrader(trader) || isDoubted(trader) == is) {
            return false;
        }
        doubted ^= 1 << trader;
        return true;
    }

    public int fits(int k) {
        return known(k);
    }

    public int fit(int i, int what, int k) {
        if (!isPart(what) || i < 0 || i >= known(k)) {
            return NONE;
        }
        return village.partOf(found.row(i), what);
    }

    public int span(int what, boolean high, int k) {
        if (!isPart(what)) {
            return NONE;
        }
        int count = known(k);
        range.begin();
        for (int i = 0; i < count; i++) {
            range.take(village.partOf(found.row(i), what));
        }
        return edge(count, high);
    }

    public int isFalse(int stone, int k) {
        if (!isStone(stone)) {
            return NONE;
        }
        int count = known(k);
        if (count <= 0) {
            return without(count);
        }
        return found.liesAlways(stone, village) ? 1 : 0;
    }

    public int fewest(int k) {
        int count = known(k);
        if (count <= 0) {
            return without(count);
        }
        return found.fewestLiars(village);
    }

    public int sets(int k) {
        int count = known(k);
        if (count <= 0) {
            return count;
        }
        return found.countSets(village);
    }

    public int set(int i, int k) {
        if (i < 0 || known(k) <= 0) {
            return NONE;
        }
        return found.setAt(i, village);
    }

    public int next(int what, int k) {
        if (what < 0 || what > 1 || village.stones < 2) {
            return NONE;
        }
        int count = known(k);
        if (count <= 0) {
            return without(count);
        }
        if (count > MOST_NEXT_FITS) {
            return SPENT;
        }
        trials.seekNext(village, found);
        return what == 0 ? trials.nextCode : trials.nextPart;
    }

    public int parts(int code, int how, int k) {
        if (!trials.canBe(code, village.stones) || how < LEFT || how > EVEN) {
            return NONE;
        }
        int count = known(k);
        if (count < 0) {
            return SPENT;
        }
        int shown = 0;
        for (int i = 0; i < count; i++) {
            if (village.shows(found.row(i), trials.leftOf(code), trials.rightOf(code)) == how) {
                shown++;
            }
        }
        return shown;
    }

    public int clear(int stone, int what, int k) {
        if (!isStone(stone) || what < 0 || what > 1) {
            return NONE;
        }
        int count = known(k);
        if (count <= 0) {
            return without(count);
        }
        if (count > MOST_CLEAR_FITS) {
            return SPENT;
        }
        trials.seekClear(stone, village, found);
        return what == 0 ? trials.clearCount : trials.clearCode;
    }

    public int arm(int k) {
        int count = known(k);
        if (count <= 0) {
            return without(count);
        }
        int first = village.armOf(found.row(0));
        for (int i = 1; i < count; i++) {
            if (village.armOf(found.row(i)) != first) {
                return 0;
            }
        }
        return 1;
    }

    public int swap(int left, int right, int k) {
        if (!canWeigh(left, right)) {
            return NONE;
        }
        int count = known(k);
        if (count <= 0) {
            return without(count);
        }
        int together = 0;
        for (int i = 0; i < count; i++) {
            long row = found.row(i);
            together |= 1 << 3 * village.shows(row, left, right) + village.shows(row, right, left);
        }
        return together;
    }

    public int owed(int sale, boolean high, int k) {
        if (sale < 0 || sale >= village.sales.size) {
            return NO_DEBT;
        }
        int count = known(k);
        range.begin();
        for (int i = 0; i < count; i++) {
            range.take(village.owedFor(found.row(i), sale));
        }
        return count > 0 ? range.edge(high) : NO_DEBT;
    }

    public int debt(int trader, boolean high, int k) {
        if (!isTrader(trader)) {
            return NO_DEBT;
        }
        int count = known(k);
        range.begin();
        for (int i = 0; i < count; i++) {
            range.take(village.owedBy(found.row(i), trader));
        }
        return count > 0 ? range.edge(high) : NO_DEBT;
    }

    public int joined(boolean high, int k) {
        int count = known(k);
        range.begin();
        for (int i = 0; i < count; i++) {
            long row = found.row(i);
            range.take(thousandths(village.poundOf(row, 0), village.poundOf(row, 1)));
        }
        return edge(count, high);
    }

    public int lieYear(int stone, int k) {
        if (!isStone(stone)) {
            return NONE;
        }
        int count = known(k);
        if (count <= 0) {
            return NONE;
        }
        for (int year = 0; year < YEARS; year++) {
            if (!isEverAsSaid(stone, year, count)) {
                return year;
            }
        }
        return NONE;
    }

    private boolean isEverAsSaid(int stone, int year, int count) {
        int bit = 1 << stone;
        for (int i = 0; i < count; i++) {
            long row = found.row(i);
            if (village.haveOf(row, bit, year) == village.saidOf(row, bit)) {
                return true;
            }
        }
        return false;
    }

    public int goods(int stones, boolean left, int year, boolean high, int k) {
        if (!isPile(stones) || !isYear(year)) {
            return NONE;
        }
        int count = known(k);
        range.begin();
        for (int i = 0; i < count; i++) {
            range.open();
            if (left) {
                village.leftGoods(found.row(i), stones, year, range);
            } else {
                village.rightGoods(found.row(i), stones, year, range);
            }
            range.takeOpen();
        }
        return edge(count, high);
    }

    public int twice(int right, int left, int year, boolean high, int k) {
        if (!isPile(right) || !isPile(left) || !isYear(year)) {
            return NONE;
        }
        int count = known(k);
        range.begin();
        for (int i = 0; i < count; i++) {
            range.open();
            village.leftGoods(found.row(i), right, year, range);
            village.rightGoods(found.row(i), left, year, range);
            range.takeOpen();
        }
        return edge(count, high);
    }

    public int ratio(int a, int b, boolean high, int k) {
        if (!isStone(a) || !isStone(b)) {
            return NONE;
        }
        int count = known(k);
        range.begin();
        for (int i = 0; i < count; i++) {
            long row = found.row(i);
            range.take(thousandths(Fits.weightOf(row, a), Fits.weightOf(row, b)));
        }
        return edge(count, high);
    }

    public int sum(int stones, int year, boolean high, int k) {
        if (!isPile(stones) || !isYear(year)) {
            return NONE;
        }
        int count = known(k);
        range.begin();
        for (int i = 0; i < count; i++) {
            range.take(village.haveOf(found.row(i), stones, year));
        }
        return edge(count, high);
    }

    public int thumbs(int k) {
        if (village.ways() > MOST_THUMB_WAYS) {
            return SPENT;
        }
        search.gather(village, others, countingAt(k));
        if (Integer.bitCount(search.traders()) > MOST_THUMB_TRADERS) {
            return SPENT;
        }
        search.goThrough(true);
        return search.blamed;
    }

    public int about(int what) {
        switch (what) {
            case 0:
                return village.stones;
            case 1:
                return village.weighings.size;
            case 2:
                return others.size;
            case 3:
                return village.sales.size;
            case 4:
                return time;
            case 5:
                return reader.tape.length;
            case 6:
                return doubted;
            default:
                return NONE;
        }
    }

    /** How many FITS there are as known at k, which stand in found then; or SPENT. */
    private int known(int k) {
        if (village.ways() > MOST_WAYS) {
            return SPENT;
        }
        long counting = countingAt(k);
        if (!found.isOf(counting)) {
            found.restart(counting);
            search.gather(village, others, counting);
            search.goThrough(false);
        }
        return found.size;
    }

    /** The WEIGHINGS that count: those of the text in the low bits, the others behind them. */
    private long countingAt(int k) {
        long counting = 0;
        Weighings text = village.weighings;
        for (int i = 0; i < text.size; i++) {
            if (!isDoubted(text.trader[i])) {
                counting |= 1L << i;
            }
        }
        for (int i = 0; i < others.size; i++) {
            if (others.isKnown(i, k) && !isDoubted(others.trader[i])) {
                counting |= 1L << MOST_WEIGH_LINES + i;
            }
        }
        return counting;
    }

    private boolean isDoubted(int trader) {
        return (doubted >> trader & 1) != 0;
    }

    private boolean isStone(int stone) {
        return stone >= 0 && stone < village.stones;
    }

    private boolean isPile(int stones) {
        return stones > 0 && stones < 1 << village.stones;
    }

    private boolean canWeigh(int left, int right) {
        return isPile(left) && isPile(right) && (left & right) == 0;
    }

    private boolean isPart(int what) {
        return what >= 0 && what < Fits.FIRST_STONE + village.stones;
    }

    private static boolean isYear(int year) {
        return year >= 0 && year < YEARS;
    }

    private static boolean isTrader(int trader) {
        return trader >= 0 && trader < TRADERS;
    }

    private static int without(int count) {
        return count < 0 ? SPENT : NONE;
    }

    private int edge(int count, boolean high) {
        return count > 0 ? range.edge(high) : without(count);
    }

    private static int thousandths(int a, int b) {
        return b > 0 ? a * 1000 / b : 0;
    }

    /** The least and the most of what was taken, and a span that is still being made narrower. */
    private static final class Range {
        private static final int FAR = 1000000;
        private boolean any;
        private int least;
        private int most;
        private int low;
        private int high;

        void begin() {
            any = false;
        }

        void take(int value) {
            if (!any || value < least) {
                least = value;
            }
            if (!any || value > most) {
                most = value;
            }
            any = true;
        }

        int edge(boolean upper) {
            if (!any) {
                return NONE;
            }
            return upper ? most : least;
        }

        void open() {
            low = 0;
            high = FAR;
        }

        /** Keeps the whole numbers g with from <= g * by <= to. */
        void narrow(int from, int to, int by) {
            if (by > 0) {
                low = Math.max(low, -Math.floorDiv(-from, by));
                high = Math.min(high, Math.floorDiv(to, by));
            }
        }

        void takeOpen() {
            if (low <= high) {
                take(low);
                take(high);
            }
        }
    }

    /** Weighings in rows that are made once. */
    private static final class Weighings {
        private final int[] left;
        private final int[] right;
        private final int[] year;
        private final int[] trader;
        private final int[] how;
        private final int[] told;
        private final int[] untold;
        private int size = 0;

        Weighings(int most) {
            int room = Math.max(0, most);
            left = new int[room];
            right = new int[room];
            year = new int[room];
            trader = new int[room];
            how = new int[room];
            told = new int[room];
            untold = new int[room];
        }

        void put(int onLeft, int onRight, int inYear, int by, int shown) {
            if (size >= left.length) {
                return;
            }
            left[size] = onLeft;
            right[size] = onRight;
            year[size] = inYear;
            trader[size] = by;
            how[size] = shown;
            told[size] = 0;
            untold[size] = NONE;
            size++;
        }

        void putFrom(Weighings from, int i) {
            if (i >= 0 && i < from.size) {
                put(from.left[i], from.right[i], from.year[i], from.trader[i], from.how[i]);
            }
        }

        void setTold(int i, int at) {
            if (i >= 0 && i < size) {
                told[i] = at;
            }
        }

        boolean setUntold(int i, int at) {
            if (i < 0 || i >= size || untold[i] >= 0) {
                return false;
            }
            untold[i] = at;
            return true;
        }

        boolean isKnown(int i, int k) {
            if (i < 0 || i >= size) {
                return false;
            }
            return told[i] <= k && (untold[i] < 0 || untold[i] > k);
        }

        int topStone(int i) {
            if (i < 0 || i >= size) {
                return NONE;
            }
            int stones = left[i] | right[i];
            for (int stone = MOST_STONES - 1; stone >= 0; stone--) {
                if ((stones >> stone & 1) != 0) {
                    return stone;
                }
            }
            return NONE;
        }
    }

    private static final class Sales {
        private final int[] stones = new int[MOST_SALES];
        private final int[] year = new int[MOST_SALES];
        private final int[] trader = new int[MOST_SALES];
        private final int[] price = new int[MOST_SALES];
        private int size = 0;

        void put(int sold, int inYear, int by, int forGrain) {
            if (size >= MOST_SALES) {
                return;
            }
            stones[size] = sold;
            year[size] = inYear;
            trader[size] = by;
            price[size] = forGrain;
            size++;
        }
    }

    /** What a text tells, and what that makes of a FIT's row. */
    private static final class Village {
        private static final int PLAIN_POUND = 16;
        private int armLow;
        private int armHigh;
        private int feel;
        private final int[] poundLow = new int[TOWNS];
        private final int[] poundHigh = new int[TOWNS];
        private int stones;
        private final long[] name = new long[MOST_STONES];
        private final int[] says = new int[MOST_STONES];
        private final int[] town = new int[MOST_STONES];
        private final int[] off = new int[MOST_STONES];
        private final int[] worn = new int[MOST_STONES];
        private final int[] masterLow = new int[MOST_STONES];
        private final int[] masterHigh = new int[MOST_STONES];
        private final Weighings weighings = new Weighings(MOST_WEIGH_LINES);
        private final Sales sales = new Sales();

        Village() {
            makeEmpty();
        }

        private void makeEmpty() {
            armLow = LEFT_ARM;
            armHigh = LEFT_ARM;
            feel = 0;
            Arrays.fill(poundLow, PLAIN_POUND);
            Arrays.fill(poundHigh, PLAIN_POUND);
            stones = 0;
            weighings.size = 0;
            sales.size = 0;
        }

        int stoneOf(long word) {
            for (int s = 0; s < stones; s++) {
                if (name[s] == word) {
                    return s;
                }
            }
            return NONE;
        }

        /** The numbers that a FIT can be made of, multiplied: at most some 93 million. */
        int ways() {
            int product = armHigh - armLow + 1;
            for (int t = 0; t < TOWNS; t++) {
                product *= poundHigh[t] - poundLow[t] + 1;
            }
            for (int s = 0; s < stones; s++) {
                product *= 2 * off[s] + 1;
            }
            return product;
        }

        int leastWeight(int s, int pound) {
            int least = Math.max(1, says[s] * pound - off[s]);
            return hasMaster(s) ? Math.max(least, masterLow[s]) : least;
        }

        int mostWeight(int s, int pound) {
            int most = says[s] * pound + off[s];
            return hasMaster(s) ? Math.min(most, masterHigh[s]) : most;
        }

        boolean hasMaster(int s) {
            return masterHigh[s] >= 0;
        }

        int armOf(long row) {
            return armLow + Fits.armStep(row);
        }

        int poundOf(long row, int t) {
            if (t < 0 || t >= TOWNS) {
                return NONE;
            }
            return poundLow[t] + Fits.poundStep(row, t);
        }

        int partOf(long row, int what) {
            if (what <= 0) {
                return armOf(row);
            }
            if (what < Fits.FIRST_STONE) {
                return poundOf(row, what - 1);
            }
            return Fits.weightOf(row, what - Fits.FIRST_STONE);
        }

        int haveOf(long row, int pile, int year) {
            int grains = 0;
            for (int s = 0; s < stones; s++) {
                if ((pile >> s & 1) != 0) {
                    grains += Math.max(0, Fits.weightOf(row, s) - worn[s] * year);
                }
            }
            return grains;
        }

        int saidOf(long row, int pile) {
            int grains = 0;
            for (int s = 0; s < stones; s++) {
                if ((pile >> s & 1) != 0) {
                    grains += says[s] * poundOf(row, town[s]);
                }
            }
            return grains;
        }

        int liarsOf(long row) {
            int liars = 0;
            for (int s = 0; s < stones; s++) {
                if (Fits.weightOf(row, s) != says[s] * poundOf(row, town[s])) {
                    liars |= 1 << s;
                }
            }
            return liars;
        }

        int shows(long row, int left, int right) {
            return verdict(LEFT_ARM * haveOf(row, left, 0) - armOf(row) * haveOf(row, right, 0));
        }

        int verdict(int difference) {
            if (difference > LEFT_ARM * feel) {
                return LEFT;
            }
            return difference < -LEFT_ARM * feel ? RIGHT : EVEN;
        }

        int owedFor(long row, int sale) {
            if (sale < 0 || sale >= sales.size) {
                return 0;
            }
            int pile = sales.stones[sale];
            return sales.price[sale] * (saidOf(row, pile) - haveOf(row, pile, sales.year[sale]));
        }

        int owedBy(long row, int trader) {
            int owed = 0;
            for (int i = 0; i < sales.size; i++) {
                if (sales.trader[i] == trader) {
                    owed += owedFor(row, i);
                }
            }
            return owed;
        }

        void leftGoods(long row, int onRight, int year, Range grains) {
            int pull = armOf(row) * haveOf(row, onRight, year);
            grains.narrow(pull - LEFT_ARM * feel, pull + LEFT_ARM * feel, LEFT_ARM);
        }

        void rightGoods(long row, int onLeft, int year, Range grains) {
            int pull = LEFT_ARM * haveOf(row, onLeft, year);
            grains.narrow(pull - LEFT_ARM * feel, pull + LEFT_ARM * feel, armOf(row));
        }
    }

    /** The TAPE, and the TOKENS on it one by one. */
    private static final class Tape {
        private static final int FINISH = 0;
        private static final int WORD = 1;
        private static final int NUMBER = 2;
        private static final int SIGN = 3;
        private static final int BAD = 4;
        private static final int LONGEST_WORD = 8;
        private static final int LONGEST_NUMBER = 4;

        // A word is held as its bytes in one number, so that two words are compared at once.
        private static final long ARMS = 0x61726d73L;
        private static final long TO = 0x746fL;
        private static final long FEEL = 0x6665656cL;
        private static final long POUND = 0x706f756e64L;
        private static final long FROM = 0x66726f6dL;
        private static final long STONE = 0x73746f6e65L;
        private static final long SAYS = 0x73617973L;
        private static final long IN = 0x696eL;
        private static final long OFF = 0x6f6666L;
        private static final long WORN = 0x776f726eL;
        private static final long MASTER = 0x6d6173746572L;
        private static final long WEIGH = 0x7765696768L;
        private static final long WITH = 0x77697468L;
        private static final long BY = 0x6279L;
        private static final long TO_LEFT = 0x6c656674L;
        private static final long TO_RIGHT = 0x7269676874L;
        private static final long TO_EVEN = 0x6576656eL;
        private static final long SALE = 0x73616c65L;
        private static final long PRICE = 0x7072696365L;
        private static final long[] OWN_WORDS = {
            0x61726d73L, 0x746fL, 0x6665656cL, 0x706f756e64L, 0x66726f6dL, 0x73746f6e65L, 0x73617973L,
            0x696eL, 0x6f6666L, 0x776f726eL, 0x6d6173746572L, 0x7765696768L, 0x77697468L, 0x6279L,
            0x6c656674L, 0x7269676874L, 0x6576656eL, 0x73616c65L, 0x7072696365L};

        private final byte[] bytes = new byte[MOST_BYTES];
        private int length = 0;
        private int at = 0;
        private int place = 0;
        private int kind = FINISH;
        private long word = 0;
        private int number = 0;

        void putFour(int four) {
            for (int shift = 24; shift >= 0; shift -= 8) {
                if (length < MOST_BYTES) {
                    bytes[length] = (byte) (four >> shift);
                    length++;
                }
            }
        }

        void rewind() {
            at = 0;
            advance();
        }

        /** Goes on to the TOKEN behind: its kind, its place, what it is. */
        void advance() {
            while (at < length && isBlank(bytes[at])) {
                at++;
            }
            place = at;
            if (at >= length) {
                kind = FINISH;
            } else if (isLetter(bytes[at])) {
                scanWord();
            } else if (isDigit(bytes[at])) {
                scanNumber();
            } else {
                kind = bytes[at] == ';' ? SIGN : BAD;
                at++;
            }
        }

        private void scanWord() {
            word = 0;
            while (at < length && isLetter(bytes[at])) {
                word = word << 8 | bytes[at];
                at++;
            }
            kind = at - place > LONGEST_WORD ? BAD : WORD;
        }

        private void scanNumber() {
            number = 0;
            while (at < length && isDigit(bytes[at])) {
                number = number * 10 + bytes[at] - '0';
                at++;
            }
            boolean letterBehind = at < length && isLetter(bytes[at]);
            kind = letterBehind || at - place > LONGEST_NUMBER ? BAD : NUMBER;
        }

        boolean isWord(long wanted) {
            return kind == WORD && word == wanted;
        }

        boolean isName() {
            if (kind != WORD) {
                return false;
            }
            for (int i = 0; i < OWN_WORDS.length; i++) {
                if (OWN_WORDS[i] == word) {
                    return false;
                }
            }
            return true;
        }

        private static boolean isBlank(int sign) {
            return sign == 32 || sign == 10;
        }

        private static boolean isLetter(int sign) {
            return sign >= 'a' && sign <= 'z';
        }

        private static boolean isDigit(int sign) {
            return sign >= '0' && sign <= '9';
        }
    }

    /** Reads the TAPE to a Village, up to its first FAULT. */
    private static final class Reader {
        private static final int LOWEST_ARM = 90;
        private static final int HIGHEST_ARM = 110;
        private static final int WIDEST_ARMS = 6;
        private static final int HIGHEST_FEEL = 9;
        private static final int HIGHEST_POUND = 40;
        private static final int WIDEST_POUND = 4;
        private static final int MOST_SAID = 9;
        private static final int MOST_OFF = 4;
        private static final int MOST_WORN = 3;
        private static final int HIGHEST_MASTER = 400;
        private static final int HIGHEST_PRICE = 99;

        private final Tape tape = new Tape();
        private Village made = new Village();
        private int value = 0;
        private boolean armsTold = false;
        private boolean feelTold = false;
        private int poundsTold = 0;
        private int fault = 0;
        private int faultPlace = NONE;

        /** How many lines were read to the village that is made; NONE: a FAULT. */
        int read() {
            armsTold = false;
            feelTold = false;
            poundsTold = 0;
            fault = 0;
            faultPlace = NONE;
            made.makeEmpty();
            tape.rewind();
            int lines = 0;
            while (tape.kind != Tape.FINISH && lines <= MOST_BYTES) {
                if (!readLine()) {
                    return NONE;
                }
                lines++;
            }
            return lines;
        }

        /** The village in use must outlast a FAULT, so another one is written over each time. */
        Village swapFor(Village used) {
            Village ready = made;
            made = used;
            return ready;
        }

        private boolean refuse(int why) {
            fault = tape.kind == Tape.BAD ? NO_TOKEN : why;
            faultPlace = tape.place;
            return false;
        }

        private boolean readLine() {
            if (tape.isWord(Tape.ARMS)) {
                return readArms();
            }
            if (tape.isWord(Tape.FEEL)) {
                return readFeel();
            }
            if (tape.isWord(Tape.POUND)) {
                return readPound();
            }
            if (tape.isWord(Tape.STONE)) {
                return readStone();
            }
            if (tape.isWord(Tape.MASTER)) {
                return readMaster();
            }
            if (tape.isWord(Tape.WEIGH)) {
                return readWeigh();
            }
            if (tape.isWord(Tape.SALE)) {
                return readSale();
            }
            return refuse(OUT_OF_PLACE);
        }

        private boolean readArms() {
            if (armsTold) {
                return refuse(OUT_OF_PLACE);
            }
            armsTold = true;
            tape.advance();
            if (!takeNumber(LOWEST_ARM, HIGHEST_ARM)) {
                return false;
            }
            int low = value;
            if (!takeWord(Tape.TO) || !takeNumber(low, Math.min(HIGHEST_ARM, low + WIDEST_ARMS))) {
                return false;
            }
            made.armLow = low;
            made.armHigh = value;
            return takeSign();
        }

        private boolean readFeel() {
            if (feelTold) {
                return refuse(OUT_OF_PLACE);
            }
            feelTold = true;
            tape.advance();
            if (!takeNumber(0, HIGHEST_FEEL)) {
                return false;
            }
            made.feel = value;
            return takeSign();
        }

        private boolean readPound() {
            tape.advance();
            if (isPoundTold()) {
                return refuse(TOLD_ALREADY);
            }
            if (!takeNumber(0, TOWNS - 1)) {
                return false;
            }
            int town = value;
            if (!takeWord(Tape.FROM) || !takeNumber(1, HIGHEST_POUND)) {
                return false;
            }
            int low = value;
            if (!takeWord(Tape.TO) || !takeNumber(low, Math.min(HIGHEST_POUND, low + WIDEST_POUND))) {
                return false;
            }
            made.poundLow[town] = low;
            made.poundHigh[town] = value;
            poundsTold |= 1 << town;
            return takeSign();
        }

        private boolean isPoundTold() {
            return tape.kind == Tape.NUMBER && tape.number < TOWNS && (poundsTold >> tape.number & 1) != 0;
        }

        private boolean readStone() {
            int s = made.stones;
            if (s >= MOST_STONES) {
                return refuse(OUT_OF_PLACE);
            }
            tape.advance();
            if (!tape.isName()) {
                return refuse(OUT_OF_PLACE);
            }
            if (made.stoneOf(tape.word) >= 0) {
                return refuse(TOLD_ALREADY);
            }
            made.name[s] = tape.word;
            tape.advance();
            if (!takeWord(Tape.SAYS) || !takeNumber(1, MOST_SAID)) {
                return false;
            }
            made.says[s] = value;
            if (!takeWord(Tape.IN) || !takeNumber(0, TOWNS - 1)) {
                return false;
            }
            made.town[s] = value;
            if (!takeWord(Tape.OFF) || !takeNumber(0, MOST_OFF)) {
                return false;
            }
            made.off[s] = value;
            if (!takeWord(Tape.WORN) || !takeNumber(0, MOST_WORN)) {
                return false;
            }
            made.worn[s] = value;
            made.masterLow[s] = NONE;
            made.masterHigh[s] = NONE;
            made.stones++;
            return takeSign();
        }

        private boolean readMaster() {
            tape.advance();
            int s = stoneHere();
            if (s < 0) {
                return false;
            }
            if (made.hasMaster(s)) {
                return refuse(TOLD_ALREADY);
            }
            tape.advance();
            if (!takeWord(Tape.FROM) || !takeNumber(0, HIGHEST_MASTER)) {
                return false;
            }
            made.masterLow[s] = value;
            if (!takeWord(Tape.TO) || !takeNumber(made.masterLow[s], HIGHEST_MASTER)) {
                return false;
            }
            made.masterHigh[s] = value;
            return takeSign();
        }

        private boolean readWeigh() {
            if (made.weighings.size >= MOST_WEIGH_LINES) {
                return refuse(OUT_OF_PLACE);
            }
            tape.advance();
            int left = takePile(0);
            if (left < 0 || !takeWord(Tape.WITH)) {
                return false;
            }
            int right = takePile(left);
            if (right < 0 || !takeWord(Tape.IN) || !takeNumber(0, YEARS - 1)) {
                return false;
            }
            int year = value;
            if (!takeWord(Tape.BY) || !takeNumber(0, TRADERS - 1)) {
                return false;
            }
            int trader = value;
            int how = verdictHere();
            if (how < 0) {
                return refuse(OUT_OF_PLACE);
            }
            tape.advance();
            made.weighings.put(left, right, year, trader, how);
            return takeSign();
        }

        private int verdictHere() {
            if (tape.isWord(Tape.TO_LEFT)) {
                return LEFT;
            }
            if (tape.isWord(Tape.TO_RIGHT)) {
                return RIGHT;
            }
            return tape.isWord(Tape.TO_EVEN) ? EVEN : NONE;
        }

        private boolean readSale() {
            if (made.sales.size >= MOST_SALES) {
                return refuse(OUT_OF_PLACE);
            }
            tape.advance();
            int pile = takePile(0);
            if (pile < 0 || !takeWord(Tape.IN) || !takeNumber(0, YEARS - 1)) {
                return false;
            }
            int year = value;
            if (!takeWord(Tape.BY) || !takeNumber(0, TRADERS - 1)) {
                return false;
            }
            int trader = value;
            if (!takeWord(Tape.PRICE) || !takeNumber(0, HIGHEST_PRICE)) {
                return false;
            }
            made.sales.put(pile, year, trader, value);
            return takeSign();
        }

        /** STONES as bits, none of those taken; NONE: a FAULT. */
        private int takePile(int taken) {
            int pile = 0;
            for (int i = 0; i <= MOST_STONES && (i == 0 || tape.isName()); i++) {
                int s = stoneHere();
                if (s < 0) {
                    return NONE;
                }
                if (((taken | pile) >> s & 1) != 0) {
                    refuse(TOLD_ALREADY);
                    return NONE;
                }
                pile |= 1 << s;
                tape.advance();
            }
            return pile;
        }

        private int stoneHere() {
            if (!tape.isName()) {
                refuse(OUT_OF_PLACE);
                return NONE;
            }
            int s = made.stoneOf(tape.word);
            if (s < 0) {
                refuse(NO_STONE);
            }
            return s;
        }

        private boolean takeWord(long wanted) {
            if (!tape.isWord(wanted)) {
                return refuse(OUT_OF_PLACE);
            }
            tape.advance();
            return true;
        }

        private boolean takeNumber(int low, int high) {
            if (tape.kind != Tape.NUMBER) {
                return refuse(OUT_OF_PLACE);
            }
            if (tape.number < low || tape.number > high) {
                return refuse(CANNOT_BE);
            }
            value = tape.number;
            tape.advance();
            return true;
        }

        private boolean takeSign() {
            if (tape.kind != Tape.SIGN) {
                return refuse(OUT_OF_PLACE);
            }
            tape.advance();
            return true;
        }
    }

    /** The FITS of one set of WEIGHINGS, each as the bits of one number, kept until other ones are asked for. */
    private static final class Fits {
        private static final int FIRST_STONE = 3;
        private static final int WEIGHT_BITS = 9;
        private static final int WEIGHT_MASK = 511;
        private static final int ARM_SHIFT = 54;
        private static final int POUND_SHIFT = 57;
        private static final int STEP_BITS = 3;
        private static final int STEP_MASK = 7;
        private static final int FIRST_ROOM = 256;

        private long[] rows = new long[FIRST_ROOM];
        private int size = 0;
        private boolean any = false;
        private long key = 0;
        private int stamp = 0;
        private boolean liarsKnown = false;
        private long liarSets = 0;

        boolean isOf(long counting) {
            return any && key == counting;
        }

        void forget() {
            any = false;
            stamp++;
        }

        void restart(long counting) {
            any = true;
            key = counting;
            size = 0;
            stamp++;
            liarsKnown = false;
        }

        void put(long row) {
            if (size >= rows.length) {
                rows = Arrays.copyOf(rows, Math.min(2 * rows.length, MOST_WAYS));
            }
            if (size < rows.length) {
                rows[size] = row;
                size++;
            }
        }

        long row(int i) {
            return i >= 0 && i < size ? rows[i] : 0;
        }

        static long head(int armStep, int poundStep, int otherPoundStep) {
            return (long) armStep << ARM_SHIFT | (long) poundStep << POUND_SHIFT
                | (long) otherPoundStep << POUND_SHIFT + STEP_BITS;
        }

        static long withWeight(long row, int s, int weight) {
            return row | (long) weight << WEIGHT_BITS * s;
        }

        static int armStep(long row) {
            return (int) (row >> ARM_SHIFT) & STEP_MASK;
        }

        static int poundStep(long row, int t) {
            return (int) (row >> POUND_SHIFT + STEP_BITS * t) & STEP_MASK;
        }

        static int weightOf(long row, int s) {
            return (int) (row >> WEIGHT_BITS * s) & WEIGHT_MASK;
        }

        /** Bit m tells that m is the LIARS of some FIT: six STONES have just as many sets as a long has bits. */
        private long liarSets(Village village) {
            if (!liarsKnown) {
                liarSets = 0;
                for (int i = 0; i < size; i++) {
                    liarSets |= 1L << village.liarsOf(rows[i]);
                }
                liarsKnown = true;
            }
            return liarSets;
        }

        boolean liesAlways(int stone, Village village) {
            long all = liarSets(village);
            for (int liars = 0; liars < 1 << MOST_STONES; liars++) {
                if ((all >> liars & 1) != 0 && (liars >> stone & 1) == 0) {
                    return false;
                }
            }
            return true;
        }

        int fewestLiars(Village village) {
            long all = liarSets(village);
            int least = MOST_STONES;
            for (int liars = 0; liars < 1 << MOST_STONES; liars++) {
                if ((all >> liars & 1) != 0) {
                    least = Math.min(least, Integer.bitCount(liars));
                }
            }
            return least;
        }

        int countSets(Village village) {
            long all = liarSets(village);
            int least = fewestLiars(village);
            int count = 0;
            for (int liars = 0; liars < 1 << MOST_STONES; liars++) {
                if ((all >> liars & 1) != 0 && Integer.bitCount(liars) == least) {
                    count++;
                }
            }
            return count;
        }

        int setAt(int i, Village village) {
            long all = liarSets(village);
            int least = fewestLiars(village);
            int before = 0;
            for (int liars = 0; liars < 1 << MOST_STONES; liars++) {
                if ((all >> liars & 1) != 0 && Integer.bitCount(liars) == least) {
                    if (before == i) {
                        return liars;
                    }
                    before++;
                }
            }
            return NONE;
        }
    }

    /** Goes through all that a FIT can be made of. */
    private static final class Search {
        private static final int FAR = 10000000;
        private static final int MOST_COUNTED = MOST_WEIGH_LINES + MOST_OTHERS;

        private Village village = new Village();
        private final Fits found = new Fits();
        private final Weighings counted = new Weighings(MOST_COUNTED);
        private final int[] firstOf = new int[MOST_STONES + 1];
        private final int[] weight = new int[MOST_STONES];
        private final int[] least = new int[MOST_STONES];
        private final int[] most = new int[MOST_STONES];
        private int arm = LEFT_ARM;
        private int low = 0;
        private int high = 0;
        private int blamed = NONE;

        /** Puts the WEIGHINGS that count in order by their last STONE: each is judged once that one is laid. */
        void gather(Village from, Weighings others, long counting) {
            village = from;
            counted.size = 0;
            for (int s = 0; s < MOST_STONES; s++) {
                firstOf[s] = counted.size;
                gatherFrom(from.weighings, counting, s);
                gatherFrom(others, counting >> MOST_WEIGH_LINES, s);
            }
            firstOf[MOST_STONES] = counted.size;
        }

        private void gatherFrom(Weighings from, long counting, int s) {
            for (int i = 0; i < from.size; i++) {
                if ((counting >> i & 1) != 0 && from.topStone(i) == s) {
                    counted.putFrom(from, i);
                }
            }
        }

        int traders() {
            int bits = 0;
            for (int i = 0; i < counted.size; i++) {
                bits |= 1 << counted.trader[i];
            }
            return bits;
        }

        /** Finds the FITS; or, blaming, the fewest TRADERS by whom alone weighings are told otherwise. */
        void goThrough(boolean blaming) {
            blamed = NONE;
            for (int a = village.armLow; a <= village.armHigh; a++) {
                arm = a;
                for (int p = village.poundLow[0]; p <= village.poundHigh[0]; p++) {
                    for (int q = village.poundLow[1]; q <= village.poundHigh[1]; q++) {
                        if (!setSpans(p, q)) {
                            continue;
                        }
                        if (blaming) {
                            layBlaming(0, 0);
                        } else {
                            lay(0, Fits.head(a - village.armLow, p - village.poundLow[0], q - village.poundLow[1]));
                        }
                    }
                }
            }
        }

        /** False if some STONE can have no weight at all. */
        private boolean setSpans(int pound, int otherPound) {
            boolean all = true;
            for (int s = 0; s < village.stones; s++) {
                int its = village.town[s] == 0 ? pound : otherPound;
                least[s] = village.leastWeight(s, its);
                most[s] = village.mostWeight(s, its);
                all &= least[s] <= most[s];
            }
            return all;
        }

        private void lay(int s, long row) {
            if (s >= village.stones || s >= MOST_STONES) {
                found.put(row);
                return;
            }
            low = least[s];
            high = most[s];
            for (int i = firstOf[s]; i < firstOf[s + 1]; i++) {
                narrow(i, s);
            }
            int last = high;
            for (int w = low; w <= last; w++) {
                weight[s] = w;
                lay(s + 1, Fits.withWeight(row, s, w));
            }
        }

        /** A weighing leaves a span of its last STONE's weights, so those outside needn't be tried. */
        private void narrow(int i, int s) {
            int bit = 1 << s;
            boolean onLeft = (counted.left[i] & bit) != 0;
            int rest = differenceOf(i, bit);
            int from = onLeft ? leastShowing(counted.how[i]) - rest : rest - mostShowing(counted.how[i]);
            int to = onLeft ? mostShowing(counted.how[i]) - rest : rest - leastShowing(counted.how[i]);
            int by = onLeft ? LEFT_ARM : Math.max(1, arm);
            int lightest = -Math.floorDiv(-from, by);
            int heaviest = Math.floorDiv(to, by);
            int gone = village.worn[s] * counted.year[i];
            if (lightest > 0) {
                low = Math.max(low, lightest + gone);
            }
            // What is worn away weighs 0 and never less: no weight gives a heaviest below 0.
            high = heaviest < 0 ? low - 1 : Math.min(high, heaviest + gone);
        }

        private int leastShowing(int how) {
            if (how == LEFT) {
                return LEFT_ARM * village.feel + 1;
            }
            return how == RIGHT ? -FAR : -LEFT_ARM * village.feel;
        }

        private int mostShowing(int how) {
            if (how == RIGHT) {
                return -LEFT_ARM * village.feel - 1;
            }
            return how == LEFT ? FAR : LEFT_ARM * village.feel;
        }

        private int differenceOf(int i, int without) {
            int left = counted.left[i] & ~without;
            int right = counted.right[i] & ~without;
            return LEFT_ARM * laid(left, counted.year[i]) - arm * laid(right, counted.year[i]);
        }

        private int laid(int pile, int year) {
            int grains = 0;
            for (int s = 0; s < village.stones; s++) {
                if ((pile >> s & 1) != 0) {
                    grains += Math.max(0, weight[s] - village.worn[s] * year);
                }
            }
            return grains;
        }

        private void layBlaming(int s, int blame) {
            if (!isBetter(blame)) {
                return;
            }
            if (s >= village.stones || s >= MOST_STONES) {
                blamed = blame;
                return;
            }
            for (int w = least[s]; w <= most[s]; w++) {
                weight[s] = w;
                layBlaming(s + 1, blame | blameAt(s));
            }
        }

        /** More blame only makes it worse, so a half laid FIT that isn't better is left. */
        private boolean isBetter(int blame) {
            if (blamed < 0) {
                return true;
            }
            int more = Integer.bitCount(blame) - Integer.bitCount(blamed);
            return more < 0 || more == 0 && blame < blamed;
        }

        private int blameAt(int s) {
            int blame = 0;
            for (int i = firstOf[s]; i < firstOf[s + 1]; i++) {
                if (village.verdict(differenceOf(i, 0)) != counted.how[i]) {
                    blame |= 1 << counted.trader[i];
                }
            }
            return blame;
        }
    }

    /** TRIALS by their codes, and which of them to make. */
    private static final class Trials {
        private static final int CODES = 729;
        private static final int SHOWN = 3;
        private static final int MOST_CLEAR_SIDE = 2;
        private static final int MOST_SMALL = 240;
        private static final int WORDS = 3;
        private static final int WORD_BITS = 64;

        private final int[] left = new int[CODES];
        private final int[] right = new int[CODES];
        private final int[] codes = new int[CODES];
        private int codeCount = 0;
        private final int[] shown = new int[CODES * SHOWN];
        private final int[] grains = new int[1 << MOST_STONES];
        private int nextStamp = NONE;
        private int nextCode = NONE;
        private int nextPart = NONE;

        private final int[] small = new int[MOST_SMALL];
        private int smallCount = 0;
        private final long[] seen = new long[MOST_SMALL * SHOWN * WORDS];
        private final long[] part = new long[WORDS];
        private final long[] said = new long[WORDS];
        private final long[] lies = new long[WORDS];
        private int words = 0;
        private int clearStamp = NONE;
        private int clearStone = NONE;
        private int clearCount = NONE;
        private int clearCode = NONE;

        Trials() {
            for (int code = 0; code < CODES; code++) {
                int rest = code;
                for (int s = 0; s < MOST_STONES; s++) {
                    int side = rest % 3;
                    left[code] |= side == 1 ? 1 << s : 0;
                    right[code] |= side == 2 ? 1 << s : 0;
                    rest /= 3;
                }
            }
        }

        int leftOf(int code) {
            return code >= 0 && code < CODES ? left[code] : 0;
        }

        int rightOf(int code) {
            return code >= 0 && code < CODES ? right[code] : 0;
        }

        boolean canBe(int code, int stones) {
            return leftOf(code) != 0 && rightOf(code) != 0 && (leftOf(code) | rightOf(code)) < 1 << stones;
        }

        void seekNext(Village village, Fits fits) {
            if (nextStamp == fits.stamp) {
                return;
            }
            nextStamp = fits.stamp;
            nextCode = NONE;
            nextPart = NONE;
            codeCount = list(codes, village.stones, MOST_STONES);
            Arrays.fill(shown, 0);
            for (int i = 0; i < fits.size; i++) {
                countShown(village, fits.row(i));
            }
            int fewestStones = 0;
            for (int t = 0; t < codeCount; t++) {
                int greatest = greatestPart(t);
                int stones = Integer.bitCount(left[codes[t]] | right[codes[t]]);
                if (t == 0 || greatest < nextPart || greatest == nextPart && stones < fewestStones) {
                    nextCode = codes[t];
                    nextPart = greatest;
                    fewestStones = stones;
                }
            }
        }

        /** The codes of all TRIALS with so many STONES a side at most, the least first: how many there are. */
        private int list(int[] into, int stones, int most) {
            int count = 0;
            for (int code = 0; code < CODES && count < into.length; code++) {
                boolean few = Integer.bitCount(left[code]) <= most && Integer.bitCount(right[code]) <= most;
                if (few && canBe(code, stones)) {
                    into[count] = code;
                    count++;
                }
            }
            return count;
        }

        private int greatestPart(int t) {
            int at = t * SHOWN;
            return Math.max(shown[at + LEFT], Math.max(shown[at + RIGHT], shown[at + EVEN]));
        }

        private void countShown(Village village, long row) {
            int arm = village.armOf(row);
            addUp(village, row);
            for (int t = 0; t < codeCount; t++) {
                int difference = LEFT_ARM * grains[left[codes[t]]] - arm * grains[right[codes[t]]];
                shown[t * SHOWN + village.verdict(difference)]++;
            }
        }

        /** What every pile of STONES has, each from the pile with one STONE less. */
        private void addUp(Village village, long row) {
            grains[0] = 0;
            for (int s = 0; s < village.stones && s < MOST_STONES; s++) {
                int weight = Fits.weightOf(row, s);
                for (int pile = 0; pile < 1 << s; pile++) {
                    grains[pile + (1 << s)] = grains[pile] + weight;
                }
            }
        }

        void seekClear(int stone, Village village, Fits fits) {
            if (clearStamp == fits.stamp && clearStone == stone) {
                return;
            }
            if (clearStamp != fits.stamp) {
                smallCount = list(small, village.stones, MOST_CLEAR_SIDE);
                layOut(village, fits);
            }
            clearStamp = fits.stamp;
            clearStone = stone;
            judge(stone, village, fits);
            clearCount = NONE;
            clearCode = NONE;
            takeAll();
            if (!isMixed()) {
                clearCount = 0;
                return;
            }
            if (!seekFirst(1)) {
                seekFirst(2);
            }
        }

        private boolean seekFirst(int many) {
            for (int t = 0; t < smallCount; t++) {
                takeAll();
                if (many == 1 ? settles(t) : settlesAtLast(t)) {
                    clearCount = many;
                    clearCode = small[t];
                    return true;
                }
            }
            return false;
        }

        /** For each small TRIAL and what it can show: the FITS by which it does, as bits. */
        private void layOut(Village village, Fits fits) {
            words = Math.min(WORDS, (fits.size + WORD_BITS - 1) / WORD_BITS);
            Arrays.fill(seen, 0);
            for (int i = 0; i < fits.size && i < WORDS * WORD_BITS; i++) {
                int arm = village.armOf(fits.row(i));
                addUp(village, fits.row(i));
                for (int t = 0; t < smallCount; t++) {
                    int difference = LEFT_ARM * grains[left[small[t]]] - arm * grains[right[small[t]]];
                    seen[seenAt(t, village.verdict(difference)) + i / WORD_BITS] |= 1L << i % WORD_BITS;
                }
            }
        }

        private static int seenAt(int t, int show) {
            return (t * SHOWN + show) * WORDS;
        }

        private void judge(int stone, Village village, Fits fits) {
            Arrays.fill(said, 0);
            Arrays.fill(lies, 0);
            for (int i = 0; i < fits.size && i < WORDS * WORD_BITS; i++) {
                boolean lie = (village.liarsOf(fits.row(i)) >> stone & 1) != 0;
                if (lie) {
                    lies[i / WORD_BITS] |= 1L << i % WORD_BITS;
                } else {
                    said[i / WORD_BITS] |= 1L << i % WORD_BITS;
                }
            }
        }

        private void takeAll() {
            for (int w = 0; w < WORDS; w++) {
                part[w] = said[w] | lies[w];
            }
        }

        private void takeShown(int t, int show) {
            for (int w = 0; w < WORDS; w++) {
                part[w] = seen[seenAt(t, show) + w];
            }
        }

        private boolean isMixed() {
            long as = 0;
            long not = 0;
            for (int w = 0; w < words; w++) {
                as |= part[w] & said[w];
                not |= part[w] & lies[w];
            }
            return as != 0 && not != 0;
        }

        /** Whether it is known of all FITS of the part once this TRIAL has shown something. */
        private boolean settles(int t) {
            for (int show = LEFT; show <= EVEN; show++) {
                int at = seenAt(t, show);
                long as = 0;
                long not = 0;
                for (int w = 0; w < words; w++) {
                    long both = part[w] & seen[at + w];
                    as |= both & said[w];
                    not |= both & lies[w];
                }
                if (as != 0 && not != 0) {
                    return false;
                }
            }
            return true;
        }

        private boolean settlesAtLast(int t) {
            for (int show = LEFT; show <= EVEN; show++) {
                takeShown(t, show);
                if (isMixed() && !canSettle()) {
                    return false;
                }
            }
            return true;
        }

        private boolean canSettle() {
            for (int t = 0; t < smallCount; t++) {
                if (settles(t)) {
                    return true;
                }
            }
            return false;
        }
    }
}
