/** Promises 1 to 31: each sentence on what a call answers at an edge, or refuses, with a test of its own. */
public final class CallEdgeTest {
    private static final int NONE = StoneTrust.NONE;
    private static final int SPENT = -2;
    private static final int NO_DEBT = -2000000000;
    private static final int LOW = Integer.MIN_VALUE;
    private static final int TOP = Integer.MAX_VALUE;
    private static final int[] NO_STONE = {-1, 3, 5, 6, 31, 32, 64, LOW, LOW + 1, TOP};
    private static final int[] NO_PILE = {0, -1, 8, 9, 15, 16, 64, LOW, LOW + 1, TOP};
    private static final int[] NO_YEAR = {-1, 10, LOW, TOP};
    private static final int[] NO_TRADER = {-1, 10, 31, 32, 33, 42, LOW, TOP};
    private static final String WIDE = "arms 90 to 96;pound 0 from 1 to 5;pound 1 from 1 to 5;"
        + stone("a", 1, 0, 2, 0) + stone("b", 1, 0, 3, 0) + stone("c", 1, 1, 3, 0) + stone("d", 1, 1, 3, 0)
        + "sale a in 0 by 1 price 1;";
    private static final String NO_FITS = stone("a", 1, 0, 1, 0) + stone("b", 1, 0, 1, 0) + stone("c", 1, 0, 0, 0)
        + "master a from 1 to 1;sale a in 0 by 1 price 1;";

    public static void main(String[] args) {
        newObject();
        feed();
        end();
        village();
        villageFault();
        fault();
        weighed();
        untell();
        later();
        doubt();
        fits();
        fit();
        span();
        isFalse();
        fewest();
        sets();
        set();
        next();
        parts();
        clear();
        arm();
        swap();
        owed();
        debt();
        joined();
        lieYear();
        goods();
        twice();
        ratio();
        sum();
        thumbs();
        about();
        questionsChangeNothing();
        lastCall();
        for (int promise = 1; promise <= 31; promise++) {
            Doc.wantsQuoted("## Promise " + promise + ":");
        }
        Check.end();
    }

    private static void is(String what, Object got, Object due) {
        Check.same(what, got, due);
    }

    private static String stone(String name, int says, int town, int off, int worn) {
        return Reading.stone(name, says, town, off, worn);
    }

    /** Three STONES, a of 15 .. 17, b of 15 .. 17, c of 16, two sales, and something of each other kind. */
    private static StoneTrust busy() {
        StoneTrust x = Feeder.village(stone("a", 1, 0, 1, 0) + stone("b", 1, 0, 1, 1) + stone("c", 1, 0, 0, 0)
            + "weigh a with b in 0 by 2 left;sale a in 0 by 1 price 5;sale b c in 3 by 1 price 2;");
        x.later(3);
        is("weighed", x.weighed(1, 4, 0, 4, 0), 0);
        is("weighed", x.weighed(2, 4, 0, 5, 1), 1);
        x.doubt(5, true);
        x.later(2);
        is("untell", x.untell(0), true);
        is("a fault", Feeder.read(x, "feel 10;"), NONE);
        return x;
    }

    private static void same(StoneTrust x, String before, String call) {
        is("what is seen behind " + call, Sight.of(x), before);
    }

    private static void newObject() {
        Doc.says("`StoneTrust()`: An empty VILLAGE.");
        StoneTrust x = new StoneTrust();
        for (int what = 0; what <= 6; what++) {
            is("about " + what, x.about(what), 0);
        }
        is("no fault", x.fault(0), 0);
        is("no place", x.fault(1), NONE);
        is("one fit of no stones", x.fits(0), 1);
        is("its arm", x.fit(0, 0, 0), 100);
        is("its pounds", x.fit(0, 1, 0) * 100 + x.fit(0, 2, 0), 1616);
        is("no weight", x.fit(0, 3, 0), NONE);
        is("nobody lies", x.fewest(0), 0);
        is("no stones to weigh", x.weighed(1, 2, 0, 0, 0), NONE);
        is("no stones to try", x.next(0, 0), NONE);
        is("no trial", x.parts(5, 0, 0), NONE);
        is("no sale", x.owed(0, true, 0), NO_DEBT);
        is("no debt", x.debt(0, true, 0), 0);
        is("one object is not another", new StoneTrust().feed(0, 0, 0, 0, 0) - x.about(5), 20);
    }

    private static void feed() {
        Doc.says("Twenty bytes come behind those on the TAPE, of each number the highest first: how many there are");
        StoneTrust x = new StoneTrust();
        // "feel 3;" and blanks.
        is("the first twenty", x.feed(0x6665656c, 0x20333b20, 0x20202020, 0x20202020, 0x20202020), 20);
        is("behind them", x.feed(0x61726d73, 0x39302074, 0x6f393120, 0x3b202020, 0x0a0a0a0a), 40);
        is("lines", x.village(), 2);
        is("the arms", x.span(0, false, 0) * 1000 + x.span(0, true, 0), 90091);
        // Bytes of 128 and above, and of numbers below 0, are bytes all the same.
        is("bytes of all kinds", x.feed(0x20202020, 0x202020ff, -1, LOW, TOP), 20);
        is("no token", x.village(), NONE);
        is("at the eighth byte", x.fault(1), 7);
        Doc.says("NONE, and nothing comes, if there would be more than 1,300");
        StoneTrust full = new StoneTrust();
        for (int i = 1; i <= 65; i++) {
            is("feed " + i, full.feed(0x20202020, 0x20202020, 0x20202020, 0x20202020, 0x20202020), 20 * i);
        }
        is("the 66th", full.feed(-1, -1, -1, -1, -1), NONE);
        is("still so many", full.about(5), 1300);
        is("1,281 are left", full.end(1281), 1281);
        is("one too many", full.feed(-1, -1, -1, -1, -1), NONE);
        is("nothing came", full.about(5), 1281);
        is("1,280 are left", full.end(1280), 1280);
        is("just so many", full.feed(0x20202020, 0x20202020, 0x20202020, 0x20202020, 0x2020203b), 1300);
        is("the last byte came", full.village(), NONE);
        is("which is there", full.fault(1), 1299);
        is("all but that", full.end(1299), 1299);
        is("nothing else came", full.village(), 0);
    }

    private static void end() {
        Doc.says("The TAPE has its first n bytes: n; NONE, doing nothing, if it has not so many, or n is below 0.");
        StoneTrust x = new StoneTrust();
        is("0 of none", x.end(0), 0);
        is("1 of none", x.end(1), NONE);
        Feeder.feed(x, "feel 3;feel");
        int[] cannot = {12, 13, 1300, 1301, TOP, -1, -2, LOW};
        for (int n : cannot) {
            is("end " + n, x.end(n), NONE);
            is("still so many", x.about(5), 11);
        }
        is("all of them", x.end(11), 11);
        is("some of them", x.end(7), 7);
        is("no more those behind", x.end(8), NONE);
        is("the village of them", x.village(), 1);
        is("no more those of the village", x.end(1), NONE);
        Feeder.feed(x, "feel 3;");
        x.end(5);
        Feeder.feed(x, "2;");
        is("new ones behind the first", x.about(5), 7);
        is("they are a village", x.village(), 1);
        Feeder.feed(x, "feel");
        is("none of them", x.end(0), 0);
        is("none is a village", x.village(), 0);
    }

    private static void village() {
        Doc.says("The TAPE (empty then) is the VILLAGE (other WEIGHINGS are none then, none is DOUBTED): how many lines");
        StoneTrust x = busy();
        x.end(0);
        is("no lines", x.village(), 0);
        is("no stones", x.about(0), 0);
        is("no weighings of the text", x.about(1), 0);
        is("no others", x.about(2), 0);
        is("no sales", x.about(3), 0);
        is("the time stays", x.about(4), 5);
        is("the tape is empty", x.about(5), 0);
        is("none is doubted", x.about(6), 0);
        is("one fit", x.fits(5), 1);
        StoneTrust y = busy();
        y.end(0);
        is("other lines", Feeder.read(y, stone("a", 1, 0, 1, 0) + stone("b", 1, 0, 1, 0)), 2);
        is("nothing told counts at 3", y.fits(3), 9);
        is("nothing told counts at 5", y.fits(5), 9);
        is("nothing to untell", y.untell(1), false);
        is("numbers from 0", y.weighed(1, 2, 0, 5, 0), 0);
        is("which counts", y.fits(5), 3);
        is("from then on", y.fits(4), 9);
        is("it was doubted before", y.doubt(5, true), true);
        StoneTrust z = Feeder.village("feel 1;" + Reading.plainStones(6) + "sale a in 0 by 0 price 0;");
        is("eight lines, then none", z.village(), 0);
        is("most lines", Feeder.read(z, "arms 90 to 90;feel 1;pound 0 from 1 to 1;pound 1 from 1 to 1;"
            + Reading.plainStones(2) + "master a from 1 to 1;master b from 1 to 1;"
            + "weigh a with b in 0 by 0 even;".repeat(16) + "sale a in 0 by 0 price 0;".repeat(10)), 34);
    }

    private static void villageFault() {
        Doc.says("NONE: a FAULT (all stays)");
        String[] faults = {"?", "feel 1;feel", "stone d says 0", "feel 1;" + stone("d", 1, 0, 0, 0) + "master e from 0 to 0;",
            "weigh a with b in 0 by 0 even;", stone("d", 1, 0, 1, 0) + "sale d in 0 by 0 price 1"};
        for (String text : faults) {
            StoneTrust x = busy();
            x.end(0);
            Feeder.feed(x, "feel 10;");
            x.village();
            x.end(0);
            String before = Sight.of(x);
            is("village", Feeder.read(x, text), NONE);
            is("the tape stays", x.about(5), text.length());
            is("the same again", x.village(), NONE);
            x.end(0);
            is("a fault of the same kind", Feeder.read(x, "feel 10;"), NONE);
            x.end(0);
            same(x, before, "village() of " + text);
            is("others go on", x.weighed(1, 2, 0, 0, 0), 2);
        }
    }

    private static void fault() {
        Doc.says("Of the latest village() what 0: its FAULT (0), 1: its place (NONE). NONE for another what.");
        StoneTrust x = new StoneTrust();
        int[] others = {-1, 2, 3, LOW, TOP};
        for (int what : others) {
            is("another what", x.fault(what), NONE);
        }
        is("ahead of any", x.fault(0) * 10 + x.fault(1), NONE);
        Feeder.read(x, "?");
        is("a fault at 0", x.fault(0) * 10 + x.fault(1), 10);
        for (int what : others) {
            is("another what behind a fault", x.fault(what), NONE);
        }
        x.end(0);
        Feeder.feed(x, "feel 1");
        is("until the next village()", x.fault(0) * 10 + x.fault(1), 10);
        x.village();
        is("the latest", x.fault(0) * 10 + x.fault(1), 26);
        Feeder.feed(x, ";");
        x.village();
        is("none then", x.fault(0) * 10 + x.fault(1), NONE);
        is("of an empty one", x.village() + x.fault(0) * 10 + x.fault(1), NONE);
    }

    private static void weighed() {
        Doc.says("STONES left, right as bits, YEAR, TRADER, 0 left, 1 right, 2 even: its number");
        StoneTrust x = busy();
        is("the least of all", x.weighed(1, 2, 0, 0, 0), 2);
        is("the most of all", x.weighed(4, 3, 9, 9, 2), 3);
        is("right", x.weighed(3, 4, 9, 9, 1), 4);
        Doc.says("NONE, doing nothing, if it can't be (no STONES on one side, or one on both), or there are 30");
        StoneTrust y = busy();
        String before = Sight.of(y);
        for (int pile : NO_PILE) {
            is("left " + pile, y.weighed(pile, 4, 0, 0, 0), NONE);
            is("right " + pile, y.weighed(4, pile, 0, 0, 0), NONE);
        }
        int[][] both = {{1, 1}, {3, 1}, {1, 3}, {7, 7}, {5, 6}};
        for (int[] piles : both) {
            is("one on both", y.weighed(piles[0], piles[1], 0, 0, 0), NONE);
        }
        for (int year : NO_YEAR) {
            is("year " + year, y.weighed(1, 2, year, 0, 0), NONE);
        }
        for (int trader : NO_TRADER) {
            is("trader " + trader, y.weighed(1, 2, 0, trader, 0), NONE);
        }
        int[] hows = {-1, 3, LOW, TOP};
        for (int how : hows) {
            is("how " + how, y.weighed(1, 2, 0, 0, how), NONE);
        }
        same(y, before, "weighings that can't be");
        for (int i = 2; i < 30; i++) {
            is("number", y.weighed(1, 2, 0, 2, 0), i);
        }
        before = Sight.of(y);
        is("there are 30", y.weighed(1, 2, 0, 0, 2), NONE);
        is("though it can't be", y.weighed(0, 0, 0, 0, 0), NONE);
        same(y, before, "a 31st weighing");
        y.untell(7);
        is("though one is untold", y.weighed(1, 2, 0, 0, 2), NONE);
        StoneTrust z = Feeder.village(Reading.plainStones(6));
        is("all six stones", z.weighed(32, 31, 9, 0, 1), 0);
        is("no seventh", z.weighed(64, 31, 0, 0, 0), NONE);
    }

    private static void untell() {
        Doc.says("It is UNTOLD: true; false if it is so already, or there is none such.");
        StoneTrust x = busy();
        String before = Sight.of(x);
        int[] none = {-1, 2, 3, 29, 30, 31, LOW, TOP};
        for (int weighing : none) {
            is("untell " + weighing, x.untell(weighing), false);
        }
        is("so already", x.untell(0), false);
        same(x, before, "what can't be untold");
        x.later(10);
        is("so already later", x.untell(0), false);
        x.doubt(5, false);
        // b is lighter than c by what the other one tells.
        is("the other one counts", x.fits(15), 2);
        is("another one", x.untell(1), true);
        is("so already", x.untell(1), false);
        is("it was known up to 14", x.fits(14) * 10 + x.fits(15), 23);
        is("none at first", new StoneTrust().untell(0), false);
        StoneTrust y = Feeder.village(Reading.plainStones(2));
        y.weighed(1, 2, 0, 0, 0);
        is("at the time 0", y.untell(0), true);
        is("so already at the time 0", y.untell(0), false);
    }

    private static void later() {
        Doc.says("So much later (0 .. 1000): the TIME; NONE, doing nothing, for another number, or if it would be above "
            + "100,000.");
        StoneTrust x = busy();
        String before = Sight.of(x);
        int[] cannot = {-1, 1001, LOW, TOP};
        for (int by : cannot) {
            is("later " + by, x.later(by), NONE);
        }
        same(x, before, "what can't be later");
        is("0 later", x.later(0), 5);
        is("1000 later", x.later(1000), 1005);
        for (int i = 2; i <= 99; i++) {
            is("later", x.later(1000), i * 1000 + 5);
        }
        is("100,005", x.later(1000), NONE);
        is("100,001", x.later(996), NONE);
        is("still so early", x.about(4), 99005);
        is("100,000", x.later(995), 100000);
        is("0 later then", x.later(0), 100000);
        is("1 later then", x.later(1), NONE);
        is("told then", x.weighed(2, 1, 0, 0, 0), 2);
        is("known then", x.fits(100000), 0);
        is("not ahead of it", x.fits(99999), 3);
    }

    private static void doubt() {
        Doc.says("A TRADER is DOUBTED, or not: true; false, doing nothing, if it is so already, or there is none such.");
        StoneTrust x = busy();
        String before = Sight.of(x);
        for (int trader : NO_TRADER) {
            is("doubt " + trader, x.doubt(trader, true), false);
            is("trust " + trader, x.doubt(trader, false), false);
        }
        is("doubted already", x.doubt(5, true), false);
        is("not doubted already", x.doubt(0, false), false);
        same(x, before, "doubts that can't be");
        int all = 32;
        for (int trader = 0; trader <= 9; trader++) {
            is("doubt " + trader, x.doubt(trader, true), trader != 5);
            all |= 1 << trader;
        }
        is("all are doubted", x.about(6), 1023);
        is("all are doubted", all, 1023);
        is("nothing counts", x.fits(5), 9);
        for (int trader = 0; trader <= 9; trader++) {
            is("trust " + trader, x.doubt(trader, false), true);
            is("trust again " + trader, x.doubt(trader, false), false);
        }
        is("none is", x.about(6), 0);
    }

    private static void fits() {
        Doc.says("How many FITS there are; -2 if SPENT.");
        is("one", new StoneTrust().fits(0), 1);
        is("none", Feeder.village(NO_FITS).fits(0), 0);
        is("spent", Feeder.village(WIDE).fits(0), SPENT);
        is("spent at any time", Feeder.village(WIDE).fits(LOW) + Feeder.village(WIDE).fits(TOP), 2 * SPENT);
    }

    private static void fit() {
        Doc.says("NONE if there is none such, SPENT, or for another what");
        StoneTrust x = busy();
        is("fits", x.fits(5), 3);
        // 16, 15; 17, 15; 17, 16.
        is("the first", x.fit(0, 3, 5) * 100 + x.fit(0, 4, 5), 1615);
        is("the last", x.fit(2, 3, 5) * 100 + x.fit(2, 4, 5), 1716);
        int[] none = {-1, 3, 4, LOW, TOP};
        for (int i : none) {
            is("fit " + i, x.fit(i, 0, 5), NONE);
        }
        is("the last what", x.fit(0, 5, 5), 16);
        int[] others = {-1, 6, 8, 9, LOW, TOP};
        for (int what : others) {
            is("what " + what, x.fit(0, what, 5), NONE);
        }
        is("of no fits", Feeder.village(NO_FITS).fit(0, 0, 0), NONE);
        is("spent", Feeder.village(WIDE).fit(0, 0, 0), NONE);
    }

    private static void span() {
        Doc.says("NONE if there are none, or for another what; -2 if SPENT");
        StoneTrust x = busy();
        is("the last what", x.span(5, false, 5) * 100 + x.span(5, true, 5), 1616);
        is("of a", x.span(3, false, 5) * 100 + x.span(3, true, 5), 1617);
        int[] others = {-1, 6, 8, 9, LOW, TOP};
        for (int what : others) {
            is("what " + what, x.span(what, true, 5), NONE);
            is("what " + what + " of no fits", Feeder.village(NO_FITS).span(what, true, 0), NONE);
        }
        for (int what = 0; what <= 5; what++) {
            is("of no fits", Feeder.village(NO_FITS).span(what, false, 0), NONE);
            is("spent", Feeder.village(WIDE).span(what, false, 0), SPENT);
        }
    }

    private static void isFalse() {
        Doc.says("1 if a STONE is FALSE, 0 if not; NONE if there is none such, or there are no FITS; -2 if SPENT.");
        StoneTrust x = busy();
        is("a may be as said", x.isFalse(0, 5), 0);
        x.doubt(4, false);
        x.doubt(2, true);
        is("a is heavier than c at 3", x.isFalse(0, 3), 1);
        is("no more at 5", x.isFalse(0, 5), 0);
        for (int stone : NO_STONE) {
            is("stone " + stone, x.isFalse(stone, 5), NONE);
        }
        is("no fits", Feeder.village(NO_FITS).isFalse(0, 0), NONE);
        is("spent", Feeder.village(WIDE).isFalse(3, 0), SPENT);
    }

    private static void fewest() {
        Doc.says("`int fewest(int k)`: FEWEST; NONE if there are no FITS; -2 if SPENT.");
        is("no stones", new StoneTrust().fewest(0), 0);
        is("one", busy().fewest(5), 1);
        is("no fits", Feeder.village(NO_FITS).fewest(0), NONE);
        is("spent", Feeder.village(WIDE).fewest(0), SPENT);
    }

    private static void sets() {
        Doc.says("How many SETS; likewise (0 without FITS).");
        is("no stones", new StoneTrust().sets(0), 1);
        is("two", busy().sets(5), 2);
        is("no fits", Feeder.village(NO_FITS).sets(0), 0);
        is("spent", Feeder.village(WIDE).sets(0), SPENT);
    }

    private static void set() {
        Doc.says("The i-th of them; NONE if there is none such, or SPENT.");
        StoneTrust x = busy();
        is("the first", x.set(0, 5), 1);
        is("the last", x.set(1, 5), 2);
        int[] none = {-1, 2, 63, 64, LOW, TOP};
        for (int i : none) {
            is("set " + i, x.set(i, 5), NONE);
        }
        is("no stones", new StoneTrust().set(0, 0), 0);
        is("no fits", Feeder.village(NO_FITS).set(0, 0), NONE);
        is("spent", Feeder.village(WIDE).set(0, 0), NONE);
    }

    private static void next() {
        Doc.says("NONE without FITS, with less than two STONES, or for another what; -2 if SPENT");
        StoneTrust x = busy();
        // c against a, and c against b, show 2 of the 3 FITS alike: c left, a right is the least code.
        is("the code", x.next(0, 5), 11);
        is("its greatest part", x.next(1, 5), 2);
        // At 3 a is 17 and b is 15 or 16: b and c, c left.
        is("the code at 3", x.next(0, 3), 15);
        is("its greatest part at 3", x.next(1, 3), 1);
        int[] others = {-1, 2, LOW, TOP};
        for (int what : others) {
            is("what " + what, x.next(what, 5), NONE);
        }
        for (int what = 0; what <= 1; what++) {
            is("no fits", Feeder.village(NO_FITS).next(what, 0), NONE);
            is("no stones", new StoneTrust().next(what, 0), NONE);
            is("one stone", Feeder.village(Reading.plainStones(1)).next(what, 0), NONE);
            is("two stones", Feeder.village(Reading.plainStones(2)).next(what, 0) > 0, true);
            is("spent", Feeder.village(WIDE).next(what, 0), SPENT);
        }
    }

    private static void parts() {
        Doc.says("How many FITS a TRIAL (its code) would show left (how 0), right (1), even (2); NONE if one can't be; "
            + "-2 if SPENT.");
        StoneTrust x = busy();
        // a left, c right: 16 even, 17 and 17 left.
        is("left", x.parts(1 + 18, 0, 5), 2);
        is("right", x.parts(1 + 18, 1, 5), 0);
        is("even", x.parts(1 + 18, 2, 5), 1);
        int[] hows = {-1, 3, LOW, TOP};
        for (int how : hows) {
            is("how " + how, x.parts(19, how, 5), NONE);
        }
        int[] cannot = {-1, 0, 1, 2, 13, 26, 27, 27 + 19, 81 + 19, 729 + 19, LOW, TOP};
        for (int code : cannot) {
            is("code " + code, x.parts(code, 0, 5), NONE);
            is("code " + code + " of no fits", Feeder.village(NO_FITS).parts(code, 0, 0), NONE);
        }
        for (int how = 0; how <= 2; how++) {
            is("of no fits", Feeder.village(NO_FITS).parts(19, how, 0), 0);
            is("spent", Feeder.village(WIDE).parts(19, how, 0), SPENT);
        }
        is("no trial of no stones", new StoneTrust().parts(0, 2, 0), NONE);
        is("no trial of one stone", Feeder.village(Reading.plainStones(1)).parts(1, 2, 0), NONE);
    }

    private static void clear() {
        Doc.says("CLEAR what 0: how many TRIALS, 1: the code (NONE for none); NONE if two do not do, there are no FITS, no "
            + "such STONE, or for another what; -2 if SPENT.");
        StoneTrust x = busy();
        is("c is known", x.clear(2, 0, 5), 0);
        is("by no trial", x.clear(2, 1, 5), NONE);
        is("a by one", x.clear(0, 0, 5), 1);
        is("a and c: c left, a right", x.clear(0, 1, 5), 2 + 9);
        is("a is known at 3", x.clear(0, 0, 3), 0);
        is("by no trial at 3", x.clear(0, 1, 3), NONE);
        is("a by one at 5 again", x.clear(0, 0, 5), 1);
        int[] others = {-1, 2, LOW, TOP};
        for (int what : others) {
            is("what " + what, x.clear(0, what, 5), NONE);
        }
        for (int stone : NO_STONE) {
            is("stone " + stone, x.clear(stone, 0, 5), NONE);
        }
        for (int what = 0; what <= 1; what++) {
            is("two do not do", Feeder.village("feel 9;" + NO_FITS.replace("1 to 1", "1 to 99")).clear(0, what, 0), NONE);
            is("no fits", Feeder.village(NO_FITS).clear(0, what, 0), NONE);
            is("no stones", new StoneTrust().clear(0, what, 0), NONE);
            is("spent", Feeder.village(WIDE).clear(0, what, 0), SPENT);
        }
    }

    private static void arm() {
        Doc.says("1 if the ARM is TOLD, else 0; NONE without FITS; -2 if SPENT.");
        is("told", busy().arm(5), 1);
        is("not told", Feeder.village("arms 100 to 101;").arm(0), 0);
        is("no fits", Feeder.village(NO_FITS).arm(0), NONE);
        is("no fits of two arms", Feeder.village("arms 100 to 101;" + NO_FITS).arm(0), NONE);
        is("spent", Feeder.village(WIDE).arm(0), SPENT);
    }

    private static void swap() {
        Doc.says("SWAP; NONE if one can't be (as for weighed()), or without FITS; -2 if SPENT.");
        StoneTrust x = busy();
        is("always left, then right", x.swap(1, 2, 5), 2);
        for (int pile : NO_PILE) {
            is("left " + pile, x.swap(pile, 4, 5), NONE);
            is("right " + pile, x.swap(4, pile, 5), NONE);
        }
        is("one on both", x.swap(3, 1, 5), NONE);
        is("all on both", x.swap(7, 7, 5), NONE);
        is("no fits", Feeder.village(NO_FITS).swap(1, 2, 0), NONE);
        is("spent", Feeder.village(WIDE).swap(1, 2, 0), SPENT);
        is("no stones", new StoneTrust().swap(1, 2, 0), NONE);
    }

    private static void owed() {
        Doc.says("the least (high false), the most; -2000000000 if there is none such, no FITS, or SPENT");
        StoneTrust x = busy();
        // a is 16 or 17 for 5 a grain; b (15, 16, worn by 3) and c for 2 a grain.
        is("least", x.owed(0, false, 5), -5);
        is("most", x.owed(0, true, 5), 0);
        is("the last, least", x.owed(1, false, 5), 6);
        is("the last, most", x.owed(1, true, 5), 8);
        int[] none = {-1, 2, 9, 10, LOW, TOP};
        for (int sale : none) {
            is("sale " + sale, x.owed(sale, true, 5), NO_DEBT);
            is("sale " + sale + ", least", x.owed(sale, false, 5), NO_DEBT);
        }
        is("no fits", Feeder.village(NO_FITS).owed(0, true, 0), NO_DEBT);
        is("spent", Feeder.village(WIDE).owed(0, false, 0), NO_DEBT);
    }

    private static void debt() {
        Doc.says("OWED of a TRADER: likewise (0 without sales).");
        StoneTrust x = busy();
        // 16, 15: 0 and 8; 17, 15: -5 and 8; 17, 16: -5 and 6.
        is("least", x.debt(1, false, 5), 1);
        is("most", x.debt(1, true, 5), 8);
        for (int trader = 2; trader <= 9; trader++) {
            is("without sales", x.debt(trader, true, 5), 0);
            is("without sales, least", x.debt(trader, false, 5), 0);
        }
        for (int trader : NO_TRADER) {
            is("trader " + trader, x.debt(trader, true, 5), NO_DEBT);
        }
        is("no fits", Feeder.village(NO_FITS).debt(1, true, 0), NO_DEBT);
        is("spent", Feeder.village(WIDE).debt(1, false, 0), NO_DEBT);
        is("doubted or not", x.doubt(1, true) ? x.debt(1, false, 5) : 0, 1);
    }

    private static void joined() {
        Doc.says("JOINED; NONE without FITS; -2 if SPENT.");
        is("not told", busy().joined(false, 5), 1000);
        is("no fits", Feeder.village(NO_FITS).joined(true, 0), NONE);
        is("no fits, least", Feeder.village(NO_FITS).joined(false, 0), NONE);
        is("spent", Feeder.village(WIDE).joined(false, 0), SPENT);
    }

    private static void lieYear() {
        Doc.says("YEAR OF A LIE; NONE if there is none, no such STONE, or SPENT.");
        StoneTrust x = busy();
        // b is 16 at most and is worn by 1.
        is("b", x.lieYear(1, 5), 1);
        is("never", x.lieYear(2, 5), NONE);
        for (int stone : NO_STONE) {
            is("stone " + stone, x.lieYear(stone, 5), NONE);
        }
        is("no fits", Feeder.village(NO_FITS).lieYear(0, 0), NONE);
        is("spent", Feeder.village(WIDE).lieYear(0, 0), NONE);
    }

    private static void goods() {
        Doc.says("NONE if one can't be, without FITS, or if G can be nothing; -2 if SPENT");
        StoneTrust x = busy();
        is("least", x.goods(7, true, 0, false, 5), 47);
        is("most in YEAR 9", x.goods(7, false, 9, true, 5), 40);
        for (int pile : NO_PILE) {
            is("stones " + pile, x.goods(pile, true, 0, true, 5), NONE);
        }
        for (int year : NO_YEAR) {
            is("year " + year, x.goods(1, false, year, true, 5), NONE);
        }
        is("no fits", Feeder.village(NO_FITS).goods(1, true, 0, false, 0), NONE);
        is("spent", Feeder.village(WIDE).goods(1, true, 0, false, 0), SPENT);
        is("nothing", Feeder.village("arms 101 to 101;" + Reading.plainStones(1)).goods(1, true, 0, true, 0), NONE);
        is("no stones", new StoneTrust().goods(0, true, 0, true, 0), NONE);
    }

    private static void twice() {
        Doc.says("GOODS even TWICE: as they lay left with some STONES, as they lay right with some: likewise.");
        StoneTrust x = busy();
        is("the same, least", x.twice(3, 3, 0, false, 5), 31);
        is("the same in YEAR 9", x.twice(3, 3, 9, true, 5), 24);
        is("nothing", x.twice(1, 2, 0, true, 5), NONE);
        for (int pile : NO_PILE) {
            is("right " + pile, x.twice(pile, 1, 0, true, 5), NONE);
            is("left " + pile, x.twice(1, pile, 0, true, 5), NONE);
        }
        for (int year : NO_YEAR) {
            is("year " + year, x.twice(1, 1, year, true, 5), NONE);
        }
        is("no fits", Feeder.village(NO_FITS).twice(1, 1, 0, false, 0), NONE);
        is("spent", Feeder.village(WIDE).twice(1, 1, 0, false, 0), SPENT);
    }

    private static void ratio() {
        Doc.says("RATIO of two STONES; NONE if one can't be, or without FITS; -2 if SPENT.");
        StoneTrust x = busy();
        is("least, cut", x.ratio(0, 1, false, 5), 1062);
        is("most, cut", x.ratio(0, 1, true, 5), 1133);
        for (int stone : NO_STONE) {
            is("of " + stone, x.ratio(stone, 0, true, 5), NONE);
            is("to " + stone, x.ratio(0, stone, true, 5), NONE);
        }
        is("no fits", Feeder.village(NO_FITS).ratio(0, 1, false, 0), NONE);
        is("spent", Feeder.village(WIDE).ratio(0, 3, false, 0), SPENT);
    }

    private static void sum() {
        Doc.says("SUM of STONES (bits) in a YEAR: likewise.");
        StoneTrust x = busy();
        is("least", x.sum(7, 0, false, 5), 47);
        is("most", x.sum(7, 9, true, 5), 40);
        for (int pile : NO_PILE) {
            is("stones " + pile, x.sum(pile, 0, true, 5), NONE);
        }
        for (int year : NO_YEAR) {
            is("year " + year, x.sum(1, year, true, 5), NONE);
        }
        is("no fits", Feeder.village(NO_FITS).sum(1, 0, false, 0), NONE);
        is("spent", Feeder.village(WIDE).sum(1, 0, false, 0), SPENT);
    }

    private static void thumbs() {
        Doc.says("THUMBS, as bits; NONE if none do; -2 if SPENT.");
        StoneTrust x = busy();
        is("nobody", x.thumbs(5), 0);
        x.weighed(2, 1, 0, 9, 0);
        is("2 or 9", x.thumbs(5), 4);
        is("not ahead of it", x.thumbs(4), 0);
        is("none do", Feeder.village(NO_FITS).thumbs(0), NONE);
        is("spent", Feeder.village(WIDE).thumbs(0), SPENT);
    }

    private static void about() {
        Doc.says("What 0: STONES, 1: WEIGHINGS of the text, 2: others, 3: sales, 4: the TIME, 5: bytes on the TAPE, 6: "
            + "those DOUBTED, as bits. NONE for another what.");
        StoneTrust x = busy();
        int[] due = {3, 1, 2, 2, 5, 8, 32};
        for (int what = 0; what < due.length; what++) {
            is("about " + what, x.about(what), due[what]);
        }
        int[] others = {-1, 7, 8, LOW, TOP};
        for (int what : others) {
            is("about " + what, x.about(what), NONE);
        }
    }

    private static void questionsChangeNothing() {
        Doc.says("All questions: as known at k.");
        StoneTrust x = busy();
        String before = Sight.of(x);
        for (int stone = -1; stone <= 3; stone++) {
            int k = stone + 3;
            x.isFalse(stone, k);
            x.clear(stone, 1, k);
            x.lieYear(stone, k);
            x.ratio(stone, 1, true, k);
            x.goods(stone, false, 0, true, k);
            x.twice(stone, 1, 0, true, k);
            x.sum(stone, 1, false, k);
            x.swap(stone, 4, k);
            x.parts(stone + 5, 0, k);
            x.next(stone, k);
            x.joined(true, k);
            x.arm(k);
            x.sets(k);
            x.fewest(k);
            x.fit(stone, 3, k);
        }
        same(x, before, "questions");
    }

    private static void lastCall() {
        Doc.says("An object is used for at most 512 calls after it has been made");
        // Two feeds, about(), end() and village().
        StoneTrust x = Feeder.village(stone("a", 1, 0, 4, 3));
        int calls = 5;
        while (calls < 500) {
            is("a round of calls", x.fits(0) + x.span(3, true, 0) + x.sum(1, 9, false, 0) + x.thumbs(0) + x.fewest(0), 29);
            calls += 5;
        }
        is("500 calls", calls, 500);
        is("feed", x.feed(0x20202020, 0x20202020, 0x20202020, 0x20202020, 0x20202020), 20);
        is("village", x.village(), 0);
        is("later", x.later(1000), 1000);
        for (int i = 504; i <= 511; i++) {
            is("call " + i, x.doubt(3, i % 2 == 0), true);
        }
        is("call 512", x.fits(0), 1);
    }
}
