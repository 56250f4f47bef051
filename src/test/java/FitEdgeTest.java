/** The parts ==== 2 to ==== 5: each sentence that names an edge, with a test of its own, worked out by hand. */
public final class FitEdgeTest {
    private static final int NONE = StoneTrust.NONE;
    private static final int SPENT = -2;
    private static final String A = stone("a", 1, 0, 0, 0);
    private static final String B = stone("b", 1, 0, 0, 0);
    private static final String WIDE_A = stone("a", 1, 0, 4, 0);
    private static final String AB = stone("a", 1, 0, 1, 0) + stone("b", 1, 0, 1, 0);

    public static void main(String[] args) {
        weights();
        masters();
        wear();
        feel();
        sixthStone();
        fewerStones();
        textCountsAlways();
        thirtyOthers();
        toldAndUntold();
        knownAt();
        doubted();
        spent();
        order();
        asSaid();
        falseStones();
        fewestAndSets();
        trialSides();
        nextOfLikeOnes();
        otherArms();
        clearTrials();
        clearCode();
        tooManyFits();
        armTold();
        swaps();
        owed();
        debts();
        joined();
        yearOfALie();
        goods();
        twice();
        ratios();
        sums();
        thumbs();
        thumbsSpent();
        Check.end();
    }

    private static void is(String what, Object got, Object due) {
        Check.same(what, got, due);
    }

    private static String stone(String name, int says, int town, int off, int worn) {
        return Reading.stone(name, says, town, off, worn);
    }

    private static StoneTrust village(String text) {
        return Feeder.village(text);
    }

    private static void spanIs(String what, StoneTrust x, int part, int low, int high) {
        is(what + ", least", x.span(part, false, 0), low);
        is(what + ", greatest", x.span(part, true, 0), high);
    }

    private static void weights() {
        Doc.says("from says * the POUND of its TOWN less off to that and off (1 at least)");
        spanIs("16 and 4", village(WIDE_A), 3, 12, 20);
        is("fits of 16 and 4", village(WIDE_A).fits(0), 9);
        spanIs("16 alone", village(A), 3, 16, 16);
        String one = "pound 0 from 1 to 1;";
        spanIs("1 and 4", village(one + WIDE_A), 3, 1, 5);
        is("fits of 1 and 4", village(one + WIDE_A).fits(0), 5);
        spanIs("1 and 1", village(one + stone("a", 1, 0, 1, 0)), 3, 1, 2);
        spanIs("1 alone", village(one + A), 3, 1, 1);
        spanIs("5 and 4", village("pound 0 from 5 to 5;" + WIDE_A), 3, 1, 9);
        spanIs("4 and 4", village("pound 0 from 4 to 4;" + WIDE_A), 3, 1, 8);
        spanIs("360 and 4", village("pound 0 from 40 to 40;" + stone("a", 9, 0, 4, 0)), 3, 356, 364);
        spanIs("by its own town", village("pound 1 from 3 to 3;" + stone("a", 2, 1, 0, 0)), 3, 6, 6);
        StoneTrust six = village("pound 0 from 40 to 40;" + stone("a", 9, 0, 0, 0) + stone("b", 9, 0, 0, 0)
            + stone("c", 9, 0, 0, 0) + stone("d", 9, 0, 0, 0) + stone("e", 9, 0, 0, 0) + stone("f", 9, 0, 4, 0));
        spanIs("the sixth of 360 and 4", six, 8, 356, 364);
    }

    private static void masters() {
        Doc.says("and within its master's span, if there is one");
        spanIs("both ends in it", village(WIDE_A + "master a from 0 to 400;"), 3, 12, 20);
        spanIs("the least alone", village(WIDE_A + "master a from 0 to 12;"), 3, 12, 12);
        spanIs("the greatest alone", village(WIDE_A + "master a from 20 to 400;"), 3, 20, 20);
        spanIs("one between", village(WIDE_A + "master a from 15 to 15;"), 3, 15, 15);
        is("below", village(WIDE_A + "master a from 0 to 11;").fits(0), 0);
        is("above", village(WIDE_A + "master a from 21 to 400;").fits(0), 0);
        is("nothing", village("pound 0 from 1 to 1;" + WIDE_A + "master a from 0 to 0;").fits(0), 0);
        StoneTrust x = village(WIDE_A + stone("b", 1, 0, 4, 0) + "master b from 20 to 20;");
        spanIs("another's master", x, 3, 12, 20);
        spanIs("its own master", x, 4, 20, 20);
        // With POUND 11 the greatest is 15, with POUND 12 it is 16.
        StoneTrust y = village("pound 0 from 10 to 12;" + WIDE_A + "master a from 16 to 400;");
        is("one pound's weights alone", y.fits(0), 1);
        is("that pound", y.fit(0, 1, 0), 12);
    }

    private static void wear() {
        Doc.says("In a YEAR a STONE has its WEIGHT less worn * YEAR (0 at least).");
        StoneTrust x = village("pound 0 from 26 to 28;" + stone("a", 1, 0, 0, 3));
        is("year 0", x.sum(1, 0, true, 0), 28);
        is("year 8", x.sum(1, 8, true, 0), 4);
        is("year 9", x.sum(1, 9, true, 0), 1);
        is("year 9, never below 0", x.sum(1, 9, false, 0), 0);
        String worn = "pound 0 from 5 to 5;" + stone("a", 1, 0, 0, 3) + B + "weigh a with b in 9 by 0 ";
        is("0 against 5 is right by feel 4", village("feel 4;" + worn + "right;").fits(0), 1);
        is("0 against 5 is even by feel 5", village("feel 5;" + worn + "even;").fits(0), 1);
        is("0 against 5 is not right by feel 5", village("feel 5;" + worn + "right;").fits(0), 0);
        String both = "pound 0 from 5 to 5;" + stone("a", 1, 0, 4, 3) + stone("b", 1, 0, 4, 3);
        is("0 against 0 is even", village(both + "weigh a with b in 9 by 0 even;").fits(0), 81);
        is("0 against 0 is not left", village(both + "weigh a with b in 9 by 0 left;").fits(0), 0);
        is("0 against 0 is not right", village(both + "weigh b with a in 9 by 0 right;").fits(0), 0);
        // a is 26 .. 34 and has lost 27, b has nothing: it takes 28 to be left of it.
        String nothing = "pound 0 from 5 to 5;" + stone("b", 1, 0, 0, 3) + stone("a", 6, 0, 4, 3) + "weigh a with b in 9 by 0 ";
        spanIs("a has a grain at least", village(nothing + "left;"), 4, 28, 34);
        spanIs("a has nothing", village(nothing + "even;"), 4, 26, 27);
        // In YEAR 2 a (1 .. 9) has 0 up to a weight of 6, then 1, 2, 3; b has 5.
        String second = "pound 0 from 5 to 5;" + stone("b", 1, 0, 0, 0) + stone("a", 1, 0, 4, 3);
        is("b has 3 more, or less", village("feel 3;" + second + "weigh a with b in 2 by 0 even;").fits(0), 2);
        is("b has 4 more at least", village("feel 3;" + second + "weigh a with b in 2 by 0 right;").fits(0), 7);
        is("b has 5 more", village("feel 4;" + second + "weigh b with a in 2 by 0 left;").fits(0), 6);
    }

    private static void feel() {
        Doc.says("left if D is more than 100 * FEEL, right if it is less than -100 * FEEL, else even");
        String[] how = {"left", "right", "even"};
        for (int feel = 0; feel <= 9; feel += 3) {
            // b is 16, a is 16 and so much more: D is 100 * more.
            for (int more = -9; more <= 9; more++) {
                int due = more > feel ? 0 : more < -feel ? 1 : 2;
                String stones = "feel " + feel + ";pound 1 from " + (16 + more) + " to " + (16 + more) + ";"
                    + stone("a", 1, 1, 0, 0) + B;
                for (int h = 0; h < 3; h++) {
                    StoneTrust x = village(stones + "weigh a with b in 0 by 0 " + how[h] + ";");
                    is("feel " + feel + ", " + more + " more, " + how[h], x.fits(0), h == due ? 1 : 0);
                }
            }
        }
        // 100 * 1 - ARM * 1: 1 is more than 0, -1 is less; the FEEL of 1 is 100 of these.
        String grain = "pound 0 from 1 to 1;" + A + B;
        is("D is 1", village("arms 99 to 99;" + grain).swap(1, 2, 0), 1);
        is("D is -1", village("arms 101 to 101;" + grain).swap(1, 2, 0), 1 << 4);
        is("D is 0", village(grain).swap(1, 2, 0), 1 << 8);
        String[] sides = {"a with b", "b with a"};
        for (String side : sides) {
            String line = "weigh " + side + " in 0 by 0 ";
            is("D of 1 is left", village("arms 99 to 99;" + grain + line + "left;").fits(0), 1);
            is("D of 1 is not even", village("arms 99 to 99;" + grain + line + "even;").fits(0), 0);
            is("D of -1 is right", village("arms 101 to 101;" + grain + line + "right;").fits(0), 1);
            is("D of -1 is not even", village("arms 101 to 101;" + grain + line + "even;").fits(0), 0);
            is("D of 0 is even", village(grain + line + "even;").fits(0), 1);
        }
        StoneTrust nine = village("arms 90 to 90;pound 0 from 9 to 9;pound 1 from 10 to 10;" + A + stone("b", 1, 1, 0, 0)
            + "weigh a with b in 0 by 0 even;");
        is("900 - 90 * 10 is even", nine.fits(0), 1);
        is("nobody has to be doubted", nine.thumbs(0), 0);
        String tens = "pound 0 from 10 to 10;" + A + B;
        is("D is 100", village("arms 90 to 90;feel 1;" + tens).parts(1 + 6, 2, 0), 1);
        is("D is -100", village("arms 110 to 110;feel 1;" + tens).parts(1 + 6, 2, 0), 1);
        String elevens = "pound 0 from 11 to 11;" + A + B;
        is("D is 110", village("arms 90 to 90;feel 1;" + elevens).parts(1 + 6, 0, 0), 1);
        is("D is -110", village("arms 110 to 110;feel 1;" + elevens).parts(1 + 6, 1, 0), 1);
    }

    private static void sixthStone() {
        Doc.says("so that all WEIGHINGS that count are as they would be");
        String six = Reading.plainStones(5) + stone("f", 1, 0, 1, 0);
        spanIs("f heavier than a", village(six + "weigh f with a in 0 by 0 left;"), 8, 17, 17);
        spanIs("a heavier than f", village(six + "weigh a with f in 0 by 0 left;"), 8, 15, 15);
        spanIs("all of them", village(six + "weigh a b c with d e f in 0 by 0 even;"), 8, 16, 16);
        StoneTrust x = village(six);
        is("one told later", x.weighed(32, 31, 0, 0, 0), 0);
        is("that can't be", x.fits(0), 0);
    }

    private static void fewerStones() {
        Doc.says("and the WEIGHT of each STONE in YEAR 0, in whole grains");
        StringBuilder six = new StringBuilder();
        for (int i = 0; i < 6; i++) {
            six.append(stone("" + (char) ('a' + i), 1, 0, 1, 3));
        }
        StoneTrust x = village(six + "weigh a with f in 0 by 0 left;");
        is("six stones", x.fits(0), 243);
        is("their thumbs", x.thumbs(0), 0);
        Feeder.read(x, AB);
        is("two stones then", x.fits(0), 9);
        is("no weight of a third", x.span(5, true, 0), NONE);
        is("their thumbs", x.thumbs(0), 0);
        is("their trial", x.next(0, 0), 5);
        Feeder.read(x, "");
        is("no stones then", x.fits(0), 1);
        is("and no thumbs", x.thumbs(0), 0);
    }

    private static void textCountsAlways() {
        Doc.says("WEIGHINGS are those of the text, which count always");
        StoneTrust x = village(AB + "weigh a with b in 0 by 0 left;");
        int[] times = {Integer.MIN_VALUE, -1, 0, 1, Integer.MAX_VALUE};
        for (int k : times) {
            is("as known at " + k, x.fits(k), 3);
        }
        is("it can't be untold", x.untell(0), false);
        x.later(1000);
        is("behind a later village", Feeder.read(x, AB + "weigh a with b in 0 by 0 even;"), 3);
        is("as known ahead of it", x.fits(0), 3);
        is("its own weighing", x.fit(0, 3, 0), 15);
    }

    private static void thirtyOthers() {
        Doc.says("and others, 30 at most");
        StoneTrust x = village(AB + "weigh a with b in 0 by 0 left;".repeat(16));
        for (int i = 0; i < 30; i++) {
            is("number", x.weighed(2, 1, 0, 0, i == 29 ? 2 : 1), i);
        }
        is("the 31st", x.weighed(1, 2, 0, 0, 0), NONE);
        is("all 46 count", x.fits(0), 0);
        x.untell(29);
        is("but the last", x.fits(0), 3);
        is("still no room", x.weighed(1, 2, 0, 0, 0), NONE);
        is("others", x.about(2), 30);
    }

    private static void toldAndUntold() {
        Doc.says("TOLD at a TIME (0 at first, goes on), UNTOLD at a later one or the same");
        StoneTrust x = village(AB);
        is("time at first", x.about(4), 0);
        is("told at 0", x.weighed(1, 2, 0, 0, 0), 0);
        is("known at 0", x.fits(0), 3);
        is("not at -1", x.fits(-1), 9);
        is("untold at the same", x.untell(0), true);
        is("known at 0 no more", x.fits(0), 9);
        is("told at 0 again", x.weighed(1, 2, 0, 0, 0), 1);
        x.later(7);
        is("untold later", x.untell(1), true);
        is("known at 0", x.fits(0), 3);
        is("known at 6", x.fits(6), 3);
        is("not at 7", x.fits(7), 9);
        Feeder.read(x, AB);
        is("time goes on over a village", x.about(4), 7);
        is("told at 7", x.weighed(1, 2, 0, 0, 0), 0);
        is("not at 6", x.fits(6), 9);
        is("at 7", x.fits(7), 3);
    }

    private static void knownAt() {
        Doc.says("as known at k those count that were TOLD at k or before, not UNTOLD at k or before");
        StoneTrust x = village(AB);
        x.later(10);
        x.weighed(1, 2, 0, 0, 0);
        x.later(10);
        x.weighed(1, 2, 0, 1, 2);
        x.later(10);
        x.untell(0);
        int[][] due = {{Integer.MIN_VALUE, 9}, {9, 9}, {10, 3}, {19, 3}, {20, 0}, {29, 0}, {30, 3}, {Integer.MAX_VALUE, 3}};
        for (int[] row : due) {
            is("fits at " + row[0], x.fits(row[0]), row[1]);
        }
        is("left at 10", x.fit(0, 3, 10) - x.fit(0, 4, 10), 1);
        is("even at 30", x.fit(0, 3, 30) - x.fit(0, 4, 30), 0);
        Doc.says("All questions: as known at k.");
        is("span", x.span(4, true, 9) * 100 + x.span(4, true, 10), 1716);
        is("fewest", x.fewest(9) * 10 + x.fewest(10), 1);
        is("sets", x.sets(9) * 10 + x.sets(10), 12);
        is("set", x.set(0, 9) * 10 + x.set(0, 10), 1);
        is("next", x.next(1, 9) * 10 + x.next(1, 10), 33);
        is("parts", x.parts(1 + 6, 0, 9) * 10 + x.parts(1 + 6, 1, 10), 30);
        is("swap", x.swap(1, 2, 9) * 1000 + x.swap(1, 2, 10), (2 + 8 + 256) * 1000 + 2);
        is("ratio", x.ratio(0, 1, false, 9) * 10000 + x.ratio(0, 1, false, 10), 8821062);
        is("sum", x.sum(3, 0, true, 9) * 100 + x.sum(3, 0, true, 10), 3433);
        is("goods", x.goods(1, true, 0, false, 9) * 100 + x.goods(1, true, 0, false, 10), 1516);
        is("twice", x.twice(1, 2, 0, false, 9) * 100 + x.twice(1, 2, 0, false, 10), 1500 + NONE);
        is("thumbs", x.thumbs(9) * 10 + x.thumbs(20), 1);
        is("isFalse", x.isFalse(0, 9) * 10 + x.isFalse(0, 20), NONE);
        is("arm", x.arm(9) * 10 + x.arm(20), 10 + NONE);
        is("joined", x.joined(true, 9) * 10 + x.joined(true, 20), 10000 + NONE);
        is("clear", x.clear(0, 0, 9) * 10 + x.clear(0, 0, 20), 10 * NONE + NONE);
        is("lieYear", x.lieYear(0, 9) * 10 + x.lieYear(0, 20), 10 * NONE + NONE);
        is("debt", x.debt(0, true, 9) + x.debt(0, true, 20), -2000000000);
    }

    private static void doubted() {
        Doc.says("Those by a TRADER who is DOUBTED do not count (of the text, too).");
        StoneTrust x = village(AB + "weigh a with b in 0 by 9 left;");
        x.weighed(1, 2, 0, 0, 2);
        is("both count", x.fits(0), 0);
        x.doubt(9, true);
        is("of the text it does not", x.fits(0), 3);
        is("the other one does", x.fit(0, 3, 0) - x.fit(0, 4, 0), 0);
        x.doubt(0, true);
        is("none does", x.fits(0), 9);
        x.doubt(9, false);
        is("of the text it does again", x.fits(0), 3);
        is("at any time", x.fits(Integer.MIN_VALUE), 3);
        x.weighed(1, 2, 0, 0, 1);
        is("one told while doubted does not", x.fits(0), 3);
        x.doubt(0, false);
        is("until trusted", x.fits(0), 0);
    }

    private static void spent() {
        Doc.says("SPENT: if the numbers of ARMS, POUNDS, and of WEIGHTS of each STONE (2 * off and 1), multiplied, "
            + "are more than 300,000.");
        StringBuilder just = new StringBuilder("arms 90 to 95;pound 0 from 4 to 7;pound 1 from 4 to 7;");
        for (int i = 0; i < 5; i++) {
            just.append(stone("" + (char) ('a' + i), 1, 0, 2, 0));
        }
        StoneTrust most = village(just.toString());
        is("6 * 4 * 4 * 5 * 5 * 5 * 5 * 5", most.fits(0), 300000);
        is("the last of them", most.fit(299999, 0, 0), 95);
        is("a sixth stone that is not off", village(just + stone("f", 9, 0, 0, 0)).fits(0), 300000);
        // 7 * 5 * 5 * 5 * 7 * 7 * 7 is 300,125: the least above.
        String above = "arms 90 to 96;pound 0 from 1 to 5;pound 1 from 1 to 5;" + stone("a", 1, 0, 2, 0)
            + stone("b", 1, 0, 3, 0) + stone("c", 1, 1, 3, 0) + stone("d", 1, 1, 3, 0);
        is("300,125, though no weight is below 1", village(above).fits(0), SPENT);
        is("though masters leave few", village(above + "master a from 1 to 1;master b from 1 to 1;").fits(0), SPENT);
        is("though weighings leave none", village(above + "weigh a with b in 0 by 0 left;weigh a with b in 0 by 0 right;")
            .fits(0), SPENT);
        StoneTrust x = village(above + "weigh a with b in 0 by 0 left;");
        x.doubt(0, true);
        is("whoever is doubted", x.fits(0), SPENT);
        is("whenever", x.fits(Integer.MIN_VALUE), SPENT);
        // Masters leave 1 FIT of 9 * 9 * 9 * 9 * 9 * 5, which is 295,245.
        StringBuilder masters = new StringBuilder();
        for (int i = 0; i < 5; i++) {
            String name = "" + (char) ('a' + i);
            masters.append(stone(name, 1, 0, 4, 0)).append("master ").append(name).append(" from 12 to 12;");
        }
        is("295,245", village(masters + stone("f", 1, 0, 2, 0) + "master f from 16 to 16;").fits(0), 1);
        is("413,343", village(masters + stone("f", 1, 0, 3, 0) + "master f from 16 to 16;").fits(0), SPENT);
    }

    private static void order() {
        Doc.says("FITS come in order: by the ARM, the POUND of TOWN 0, that of TOWN 1, then the WEIGHT of STONE 0, 1, ..");
        StoneTrust x = village("arms 109 to 110;pound 0 from 7 to 8;pound 1 from 39 to 40;" + stone("a", 1, 1, 1, 0)
            + stone("b", 1, 0, 1, 0));
        is("fits", x.fits(0), 72);
        int[] steps = {36, 18, 9, 3, 1};
        int[] many = {2, 2, 2, 3, 3};
        int[] picked = {0, 1, 3, 9, 17, 18, 35, 36, 37, 53, 54, 70, 71};
        for (int i : picked) {
            int[] at = new int[5];
            for (int p = 0; p < 5; p++) {
                at[p] = i / steps[p] % many[p];
            }
            int[] due = {109 + at[0], 7 + at[1], 39 + at[2], 38 + at[2] + at[3], 6 + at[1] + at[4]};
            for (int what = 0; what < 5; what++) {
                is("fit " + i + " " + what, x.fit(i, what, 0), due[what]);
            }
        }
    }

    private static void asSaid() {
        Doc.says("A STONE is AS SAID in a FIT, if its WEIGHT is says * the POUND of its TOWN; it LIES in it otherwise.");
        // a of 17 .. 17 is as said by POUND 17 alone.
        StoneTrust x = village("pound 0 from 16 to 18;" + stone("a", 1, 0, 1, 0) + "master a from 17 to 17;");
        is("fits", x.fits(0), 3);
        is("as said in one", x.fewest(0), 0);
        is("not false", x.isFalse(0, 0), 0);
        StoneTrust y = village("pound 0 from 18 to 18;" + stone("a", 1, 0, 1, 0) + "master a from 17 to 17;");
        is("one grain less lies", y.fewest(0), 1);
        StoneTrust z = village(stone("a", 1, 0, 1, 0) + "master a from 17 to 17;");
        is("one grain more lies", z.fewest(0), 1);
        is("wear is no lie in YEAR 0", village(stone("a", 1, 0, 0, 3)).fewest(0), 0);
    }

    private static void falseStones() {
        Doc.says("FALSE: it LIES in all FITS (if there are any).");
        is("in all", village(WIDE_A + "master a from 17 to 20;").isFalse(0, 0), 1);
        is("not in all", village(WIDE_A + "master a from 16 to 20;").isFalse(0, 0), 0);
        is("in none", village(A).isFalse(0, 0), 0);
        is("there are none", village(WIDE_A + "master a from 21 to 22;").isFalse(0, 0), NONE);
        StoneTrust six = village(Reading.plainStones(5) + stone("f", 1, 0, 1, 0) + "master f from 15 to 15;");
        is("the sixth is", six.isFalse(5, 0), 1);
        is("the fifth is not", six.isFalse(4, 0), 0);
        is("no seventh", six.isFalse(6, 0), NONE);
    }

    private static void fewestAndSets() {
        Doc.says("SETS: the LIARS of FITS that have so few, each set once, by their numbers");
        StoneTrust none = village(AB);
        is("no liar is needed", none.fewest(0), 0);
        is("one set", none.sets(0), 1);
        is("which is empty", none.set(0, 0), 0);
        is("no other", none.set(1, 0), NONE);
        // Heavier by 2 is 17 and 15 alone.
        StoneTrust both = village("feel 1;" + AB + "weigh a with b in 0 by 0 left;");
        is("both lie", both.fewest(0), 2);
        is("one set of both", both.sets(0), 1);
        is("that set", both.set(0, 0), 3);
        // a is heavier than c: 17 and 16 (b 15 .. 17), 16 and 15, 17 and 15.
        StoneTrust once = village(AB + stone("c", 1, 0, 1, 0) + "weigh a with c in 0 by 0 left;");
        is("one liar", once.fewest(0), 1);
        is("a or c", once.sets(0), 2);
        is("a first", once.set(0, 0), 1);
        is("c then", once.set(1, 0), 4);
        is("no third", once.set(2, 0), NONE);
        StringBuilder six = new StringBuilder();
        for (int i = 0; i < 6; i++) {
            String name = "" + (char) ('a' + i);
            six.append(stone(name, 1, 0, 1, 0)).append("master ").append(name).append(" from 17 to 17;");
        }
        StoneTrust all = village(six.toString());
        is("all six lie", all.fewest(0), 6);
        is("all six as bits", all.set(0, 0), 63);
        is("one set of six", all.sets(0), 1);
    }

    private static void trialSides() {
        Doc.says("A TRIAL: STONES on both sides, one at least on each, none on both, in YEAR 0");
        StoneTrust x = village(stone("a", 1, 0, 0, 3) + stone("b", 1, 0, 0, 0) + stone("c", 1, 0, 0, 0));
        is("no wear in YEAR 0", x.parts(1 + 6, 2, 0), 1);
        Doc.says("for STONE i the number on it times 3 to the power of i (0 none, 1 left, 2 right)");
        int[] cannot = {-1, 0, 1, 2, 3, 4, 6, 8, 9, 12, 13, 18, 24, 26, 27, 28, 29, 32, 728, 729, 734};
        for (int code : cannot) {
            is("code " + code, x.parts(code, 0, 0), NONE);
        }
        int[] can = {5, 7, 10 + 1, 14, 15, 19, 21, 22, 25};
        for (int code : can) {
            is("code " + code, x.parts(code, 0, 0) + x.parts(code, 1, 0) + x.parts(code, 2, 0), 1);
        }
        StoneTrust six = village(Reading.plainStones(6));
        is("five right of one", six.parts(728 - 1, 1, 0), 1);
        is("five left of one", six.parts(364 + 1, 0, 0), 1);
        is("all right", six.parts(728, 1, 0), NONE);
        is("all left", six.parts(364, 1, 0), NONE);
        is("beyond six", six.parts(729, 1, 0), NONE);
        is("beyond six with both sides", six.parts(729 + 5, 2, 0), NONE);
        int[] wraps = {Integer.MAX_VALUE, Integer.MIN_VALUE, 5 - 729, 5 + (1 << 30), 5 + (1 << 31)};
        for (int code : wraps) {
            is("code " + code, six.parts(code, 2, 0), NONE);
        }
    }

    private static void nextOfLikeOnes() {
        Doc.says("of like ones the fewest STONES, then the least code");
        // Nothing parts one FIT: two STONES, the least code, which has b left and a right.
        StoneTrust one = village(Reading.plainStones(6));
        is("one fit", one.next(0, 0), 5);
        is("its part", one.next(1, 0), 1);
        StoneTrust two = village(A + B);
        is("two stones", two.next(0, 0), 5);
        // c parts in three (15, 16, 17) against a or b alone: of b right (15) and a right (11), both with c left.
        StoneTrust c = village(A + B + stone("c", 1, 0, 1, 0));
        is("the least code", c.next(0, 0), 11);
        is("three parts", c.next(1, 0), 1);
        // d is 2 pounds and parts in three against a and b together alone: three STONES, more than two.
        StoneTrust d = village(A + B + stone("c", 9, 0, 0, 0) + stone("d", 2, 0, 1, 0));
        is("three stones if two part less", d.next(0, 0), 2 + 6 + 27);
        is("its greatest part", d.next(1, 0), 1);
    }

    private static void otherArms() {
        Doc.says("It PARTS the FITS to those by which it would be left, right, even.");
        // ARM 90: a of 8, 9, 10 left of b of 10 is 800, 900, 1000 less 900; b left of a is 1000 less 900 at most.
        StoneTrust x = village("arms 90 to 90;pound 0 from 9 to 9;pound 1 from 10 to 10;" + stone("a", 1, 0, 1, 3)
            + stone("b", 1, 1, 0, 3));
        is("next", x.next(0, 0), 1 + 6);
        is("its greatest part", x.next(1, 0), 1);
        is("clear by it", x.clear(0, 0, 0), 1);
        is("its code", x.clear(0, 1, 0), 1 + 6);
        for (int how = 0; how <= 2; how++) {
            is("a left", x.parts(1 + 6, how, 0), 1);
            is("b left", x.parts(2 + 3, how, 0), how == 0 ? 3 : 0);
        }
    }

    private static void clearTrials() {
        Doc.says("the fewest TRIALS (0, 1, 2) of at most two STONES a side");
        is("known: no trial", village(A + B).clear(0, 0, 0), 0);
        is("known to lie: no trial", village(WIDE_A + B + "master a from 17 to 20;").clear(0, 0, 0), 0);
        is("one stone that is known", village(A).clear(0, 0, 0), 0);
        is("one stone that is not", village(WIDE_A).clear(0, 0, 0), NONE);
        StoneTrust one = village(WIDE_A + B);
        is("even or not: one trial", one.clear(0, 0, 0), 1);
        StoneTrust none = village("feel 4;" + WIDE_A + B);
        is("never felt", none.clear(0, 0, 0), NONE);
        is("no code of it", none.clear(0, 1, 0), NONE);
        // 14 .. 18, 1 grain is not felt: c (1 grain) with b, then with a.
        String two = "feel 1;pound 1 from 1 to 1;" + stone("a", 1, 0, 2, 0) + B + stone("c", 1, 1, 0, 0);
        is("two trials", village(two).clear(0, 0, 0), 2);
        // 1 and 8 pounds against 6 and 3: nothing else is even.
        StoneTrust pairs = village(stone("a", 1, 0, 1, 0) + stone("b", 8, 0, 0, 0) + stone("c", 6, 0, 0, 0)
            + stone("d", 3, 0, 0, 0));
        is("two a side", pairs.clear(0, 0, 0), 1);
        is("its code: c and d left, a and b right", pairs.clear(0, 1, 0), 2 + 6 + 9 + 27);
        StoneTrust three = village(stone("a", 3, 0, 1, 0) + B + stone("c", 1, 0, 0, 0) + stone("d", 1, 0, 0, 0));
        is("three a side", three.clear(0, 0, 0), NONE);
    }

    private static void clearCode() {
        Doc.says("the code: that of the first of them (the least code)");
        is("b left, a right", village(WIDE_A + B).clear(0, 1, 0), 5);
        StoneTrust x = village(B + stone("c", 1, 0, 0, 0) + WIDE_A);
        // a (number 2) against b or c: 9 + 2 is less than 9 + 6, 18 + 1 and 18 + 3.
        is("of like ones the least", x.clear(2, 1, 0), 11);
        is("none of none", x.clear(0, 1, 0), NONE);
        // a and b (1 .. 3 and 1 .. 2) right of c show right with 4 grains and more: then b left of a tells b of 2, else b
        // and c left of a do.
        StoneTrust each = village("arms 101 to 102;feel 2;pound 1 from 1 to 1;" + stone("a", 2, 1, 1, 0)
            + stone("b", 1, 1, 1, 0) + stone("c", 2, 1, 0, 0));
        is("each chosen by what the one ahead showed", each.clear(1, 0, 0), 2);
        is("a and b right of c", each.clear(1, 1, 0), 2 + 6 + 9);
        // One of the two TRIALS is that of the greatest code: e and f right of c and d.
        StoneTrust last = village("arms 101 to 102;pound 1 from 1 to 1;" + stone("a", 1, 1, 1, 0) + stone("b", 1, 1, 2, 0)
            + stone("c", 4, 0, 0, 0) + stone("d", 3, 1, 0, 0) + stone("e", 2, 1, 0, 0) + stone("f", 4, 0, 2, 0));
        is("the greatest code serves, too", last.clear(5, 0, 0), 2);
        is("the first of them", last.clear(5, 1, 0), 450);
        // b and c left, a right.
        StoneTrust two = village("feel 1;pound 1 from 1 to 1;" + stone("a", 1, 0, 2, 0) + B + stone("c", 1, 1, 0, 0));
        is("of two the first", two.clear(0, 1, 0), 14);
    }

    private static void tooManyFits() {
        Doc.says("SPENT, too: if there are more than 2,000 FITS (NEXT), 150 (CLEAR).");
        StoneTrust next = village("arms 97 to 100;pound 0 from 10 to 13;pound 1 from 10 to 14;" + stone("a", 1, 0, 2, 0)
            + stone("b", 1, 0, 2, 0));
        is("4 * 4 * 5 * 5 * 5", next.fits(0), 2000);
        is("next of 2,000", next.next(1, 0) > 0, true);
        // Of a's weights 16 .. 20 by POUNDS 16 .. 20: 4, 5, 5, 5, 4 ways; of b's 15 .. 20: 4, 5, 5, 5, 5, 5.
        StoneTrust above = village("arms 99 to 101;pound 0 from 16 to 20;pound 1 from 16 to 20;" + stone("a", 1, 0, 3, 0)
            + "master a from 16 to 20;" + stone("b", 1, 1, 4, 0) + "master b from 15 to 20;");
        is("3 * 23 * 29", above.fits(0), 2001);
        is("next of 2,001", above.next(0, 0), SPENT);
        is("its part", above.next(1, 0), SPENT);
        is("parts of 2,001", above.parts(5, 0, 0) + above.parts(5, 1, 0) + above.parts(5, 2, 0), 2001);
        StoneTrust clear = village("arms 90 to 95;" + stone("a", 1, 0, 2, 0) + stone("b", 1, 0, 2, 0));
        is("6 * 5 * 5", clear.fits(0), 150);
        is("clear of 150", clear.clear(0, 0, 0), NONE);
        // By POUND 16 x is as said, the others are 15 or 16: 4 * 32 FITS; then by POUND 17 x lies, with 16 alone: 4.
        StringBuilder late = new StringBuilder("pound 0 from 16 to 17;pound 1 from 1 to 4;");
        late.append(stone("x", 1, 0, 1, 0)).append("master x from 16 to 16;");
        for (int i = 0; i < 5; i++) {
            String name = "" + (char) ('a' + i);
            late.append(stone(name, 1, 0, 1, 0)).append("master ").append(name).append(" from 15 to 16;");
        }
        StoneTrust mixed = village(late.toString());
        is("128 + 4", mixed.fits(0), 132);
        is("the last four are minded", mixed.clear(0, 0, 0), NONE);
        // By POUND 16 a, b, c are 44 .. 47: 64 FITS; by POUND 17 they are 47, and x lies.
        StringBuilder one = new StringBuilder("pound 0 from 16 to 17;" + stone("x", 1, 0, 1, 0) + "master x from 16 to 16;");
        for (int i = 0; i < 3; i++) {
            String name = "" + (char) ('a' + i);
            one.append(stone(name, 3, 0, 4, 0)).append("master ").append(name).append(" from 0 to 47;");
        }
        is("64 + 1", village(one.toString()).fits(0), 65);
        is("the last one is minded", village(one.toString()).clear(0, 0, 0), NONE);
        one.append(stone("d", 1, 0, 1, 0)).append("master d from 15 to 16;");
        is("128 + 1", village(one.toString()).fits(0), 129);
        is("the last of 129 is minded", village(one.toString()).clear(0, 0, 0), NONE);
        // a: 3, 4, 5, 5, 5 by POUNDS 3 .. 7; b: 6, 7, 7, 7, 7.
        StoneTrust more = village("pound 0 from 3 to 7;" + stone("a", 1, 0, 2, 0) + "master a from 3 to 400;"
            + stone("b", 1, 0, 3, 0));
        is("18 + 28 + 35 + 35 + 35", more.fits(0), 151);
        is("clear of 151", more.clear(0, 0, 0), SPENT);
        is("its code", more.clear(0, 1, 0), SPENT);
        is("next of 151", more.next(1, 0) > 0, true);
    }

    private static void armTold() {
        Doc.says("ARM TOLD: whether all FITS have one ARM.");
        is("one arm", village("arms 90 to 90;").arm(0), 1);
        is("two arms", village("arms 90 to 91;").arm(0), 0);
        is("one fit", village("arms 99 to 101;" + A + B + "weigh a with b in 0 by 0 even;").arm(0), 1);
        // 120 grains on both sides: 120 less or more than 0 by an ARM of 99, 101, which a FEEL of 1 tells.
        is("one of three", village("feel 1;arms 99 to 101;pound 0 from 40 to 40;" + stone("a", 3, 0, 0, 0)
            + stone("b", 3, 0, 0, 0) + "weigh a with b in 0 by 0 even;").arm(0), 1);
        is("one arm of many fits", village("arms 99 to 101;pound 1 from 1 to 5;" + A + B + "weigh a with b in 0 by 0 even;")
            .arm(0), 1);
        is("the last one differs", village("arms 100 to 101;" + WIDE_A + B + "weigh a with b in 0 by 0 left;").arm(0), 0);
    }

    private static void swaps() {
        Doc.says("as bits 3 * a + b (0 left, 1 right, 2 even)");
        String heavy = stone("a", 2, 0, 0, 0) + B;
        is("left, right", village(heavy).swap(1, 2, 0), 1 << 1);
        is("right, left", village(heavy).swap(2, 1, 0), 1 << 3);
        is("even, even", village(A + B).swap(1, 2, 0), 1 << 8);
        is("left, left", village("arms 99 to 99;" + A + B).swap(1, 2, 0), 1);
        is("right, right", village("arms 101 to 101;" + A + B).swap(1, 2, 0), 1 << 4);
        // FEEL 1; 16 and 15: 1600 - 1350 is left, 1500 - 1440 is even.
        String near = "feel 1;pound 1 from 15 to 15;" + A + stone("b", 1, 1, 0, 0);
        is("left, even", village("arms 90 to 90;" + near).swap(1, 2, 0), 1 << 2);
        is("even, left", village("arms 90 to 90;" + near).swap(2, 1, 0), 1 << 6);
        is("even, right", village("arms 110 to 110;" + near).swap(1, 2, 0), 1 << 7);
        is("right, even", village("arms 110 to 110;" + near).swap(2, 1, 0), 1 << 5);
        is("in YEAR 0", village(stone("a", 1, 0, 0, 3) + B).swap(1, 2, 0), 1 << 8);
        is("all of some fits", village("arms 99 to 101;" + A + B).swap(1, 2, 0), 1 + 16 + 256);
    }

    private static void owed() {
        Doc.says("OWED for a sale in a FIT: price * (says * POUND of all of its STONES together less what they have in "
            + "that YEAR).");
        String five = "pound 0 from 40 to 40;";
        for (int i = 0; i < 5; i++) {
            five += stone("" + (char) ('a' + i), 9, 0, 4, 3);
        }
        StoneTrust x = village(five + stone("f", 9, 0, 0, 3) + "sale a b c d e f in 9 by 0 price 99;"
            + "sale a b c d e f in 0 by 0 price 99;sale a in 9 by 0 price 0;sale a in 1 by 1 price 1;");
        is("all in YEAR 9, most", x.owed(0, true, 0), 99 * (5 * 31 + 27));
        is("all in YEAR 9, least", x.owed(0, false, 0), 99 * (5 * 23 + 27));
        is("all in YEAR 0, most", x.owed(1, true, 0), 99 * 20);
        is("all in YEAR 0, least", x.owed(1, false, 0), -99 * 20);
        is("for nothing, most", x.owed(2, true, 0), 0);
        is("for nothing, least", x.owed(2, false, 0), 0);
        is("one of them, least: nothing is -1", x.owed(3, false, 0), -1);
        StoneTrust gone = village("pound 0 from 5 to 5;" + stone("a", 1, 0, 0, 3) + "sale a in 9 by 0 price 99;");
        is("nothing is left of it", gone.owed(0, true, 0), 99 * 5);
    }

    private static void debts() {
        Doc.says("Of a TRADER: of all their sales together: the least and the most of all FITS.");
        // Both are 15, both 16 or both 17: 5, 0, -5 of trader 9.
        StoneTrust x = village(AB + "weigh a with b in 0 by 0 even;sale a in 0 by 9 price 2;"
            + "sale b in 0 by 9 price 3;sale a in 0 by 0 price 7;");
        is("most", x.debt(9, true, 0), 5);
        is("least", x.debt(9, false, 0), -5);
        is("trader 0, most", x.debt(0, true, 0), 7);
        is("no sales", x.debt(1, true, 0), 0);
        is("no sales, least", x.debt(1, false, 0), 0);
        StoneTrust ten = village(stone("a", 9, 0, 4, 0) + "sale a in 0 by 5 price 99;".repeat(10));
        is("ten sales, most", ten.debt(5, true, 0), 3960);
        is("ten sales, least", ten.debt(5, false, 0), -3960);
    }

    private static void joined() {
        Doc.says("JOINED: the least and the most of POUND 0 * 1000 / POUND 1 (cut).");
        is("not told", new StoneTrust().joined(false, 0), 1000);
        StoneTrust x = village("pound 0 from 36 to 40;pound 1 from 1 to 5;");
        is("most", x.joined(true, 0), 40000);
        is("least", x.joined(false, 0), 7200);
        StoneTrust y = village("pound 0 from 1 to 2;pound 1 from 36 to 40;");
        is("least", y.joined(false, 0), 25);
        is("most, cut", y.joined(true, 0), 55);
        is("a third", village("pound 0 from 1 to 1;pound 1 from 3 to 3;").joined(true, 0), 333);
        is("two thirds", village("pound 0 from 2 to 2;pound 1 from 3 to 3;").joined(false, 0), 666);
    }

    private static void yearOfALie() {
        Doc.says("the first YEAR 0 .. 9 in which in no FIT it has what it says (says * POUND), none otherwise; "
            + "none without FITS");
        is("false from the first", village(WIDE_A + "master a from 17 to 20;").lieYear(0, 0), 0);
        is("too light from the first", village(stone("a", 1, 0, 4, 1) + "master a from 12 to 15;").lieYear(0, 0), 0);
        is("as said, then worn", village(stone("a", 1, 0, 0, 1)).lieYear(0, 0), 1);
        is("4 too heavy, worn by 1", village(stone("a", 1, 0, 4, 1)).lieYear(0, 0), 5);
        is("4 too heavy, worn by 2", village(stone("a", 1, 0, 4, 2)).lieYear(0, 0), 3);
        is("3 too heavy, worn by 3", village(stone("a", 1, 0, 3, 3)).lieYear(0, 0), 2);
        is("never worn", village(WIDE_A).lieYear(0, 0), NONE);
        is("no fits", village(WIDE_A + "master a from 0 to 0;").lieYear(0, 0), NONE);
        is("worn away", village("pound 0 from 1 to 1;" + stone("a", 1, 0, 0, 1)).lieYear(0, 0), 1);
        // Even by ARM 100 with 40 grains, by ARM 105 with 42: it has 40 in YEARS 0 and 2, not in YEAR 1.
        is("the first of them", village("arms 100 to 106;pound 0 from 40 to 40;" + stone("a", 1, 0, 4, 1) + B
            + "weigh a with b in 0 by 0 even;").lieYear(0, 0), 1);
    }

    private static void goods() {
        Doc.says("GOODS of G whole grains (0 or more) lay on one side in a YEAR, STONES on the other, and it was even");
        StoneTrust x = village("feel 9;pound 0 from 5 to 5;" + stone("a", 1, 0, 0, 3));
        is("never below 0", x.goods(1, true, 0, false, 0), 0);
        is("5 and 9", x.goods(1, true, 0, true, 0), 14);
        is("never below 0, right", x.goods(1, false, 0, false, 0), 0);
        is("5 and 9, right", x.goods(1, false, 0, true, 0), 14);
        is("worn away", x.goods(1, true, 9, true, 0), 9);
        StoneTrust y = village("feel 4;pound 0 from 5 to 5;" + A);
        is("1 is the least", y.goods(1, true, 0, false, 0), 1);
        StoneTrust gone = village("pound 0 from 5 to 5;" + stone("a", 1, 0, 0, 3));
        is("nothing against nothing", gone.goods(1, true, 9, true, 0), 0);
        is("nothing right against nothing", gone.goods(1, false, 9, true, 0), 0);
        String heavy = "pound 0 from 40 to 40;";
        for (int i = 0; i < 6; i++) {
            heavy += stone("" + (char) ('a' + i), 9, 0, 0, 0);
        }
        is("2160 * 110 / 100", village("arms 110 to 110;" + heavy).goods(63, true, 0, true, 0), 2376);
        is("2160 * 100 / 90", village("arms 90 to 90;" + heavy).goods(63, false, 0, true, 0), 2400);
        // 100 G - 101 * 16 is never 0, nor is 1600 - 101 G.
        StoneTrust odd = village("arms 101 to 101;" + A);
        is("no whole grains, left", odd.goods(1, true, 0, true, 0), NONE);
        is("no whole grains, right", odd.goods(1, false, 0, false, 0), NONE);
        // Of ARMS 99 .. 101 the ARM of 100 alone has some.
        StoneTrust some = village("arms 99 to 101;" + A);
        is("of some fit, least", some.goods(1, true, 0, false, 0), 16);
        is("of some fit, most", some.goods(1, true, 0, true, 0), 16);
        // FEEL 1, ARM 90, 10 grains: 800 .. 1000 left; 900 .. 1100 of 90 each right.
        StoneTrust edge = village("arms 90 to 90;feel 1;pound 0 from 10 to 10;" + A);
        is("both ends even, least", edge.goods(1, true, 0, false, 0), 8);
        is("both ends even, most", edge.goods(1, true, 0, true, 0), 10);
        is("900 of 90", edge.goods(1, false, 0, false, 0), 10);
        is("1100 of 90, cut", edge.goods(1, false, 0, true, 0), 12);
    }

    private static void twice() {
        Doc.says("they were even with some STONES as they lay left, and with some (others or the same) as they lay right, "
            + "both in one FIT");
        StoneTrust x = village(AB);
        is("15 .. 17 of both, least", x.twice(1, 2, 0, false, 0), 15);
        is("15 .. 17 of both, most", x.twice(1, 2, 0, true, 0), 17);
        is("the same", x.twice(1, 1, 0, true, 0), 17);
        x.weighed(1, 2, 0, 0, 0);
        is("never in one fit", x.twice(1, 2, 0, true, 0), NONE);
        is("though each alone", x.goods(1, true, 0, false, 0) - x.goods(2, false, 0, true, 0), 0);
        is("the same still", x.twice(2, 2, 0, true, 0), 16);
        is("one of both sides too heavy", x.twice(1, 3, 0, true, 0), NONE);
        // ARM 90, FEEL 2, 10 grains: 700 .. 1100 left, 800 .. 1200 of 90 right: 7 .. 11, 9 .. 13.
        StoneTrust y = village("arms 90 to 90;feel 2;pound 0 from 10 to 10;" + A);
        is("where both are even, least", y.twice(1, 1, 0, false, 0), 9);
        is("where both are even, most", y.twice(1, 1, 0, true, 0), 11);
        StoneTrust gone = village("pound 0 from 5 to 5;" + stone("a", 1, 0, 0, 3));
        is("nothing twice", gone.twice(1, 1, 9, true, 0), 0);
        is("5 twice", gone.twice(1, 1, 0, false, 0), 5);
    }

    private static void ratios() {
        Doc.says("RATIO of two STONES: the least and the most of WEIGHT * 1000 / WEIGHT (cut).");
        StoneTrust x = village("pound 0 from 40 to 40;pound 1 from 1 to 1;" + stone("a", 9, 0, 4, 3)
            + stone("b", 1, 1, 4, 3));
        is("364 to 1", x.ratio(0, 1, true, 0), 364000);
        is("356 to 5", x.ratio(0, 1, false, 0), 71200);
        is("1 to 364, cut", x.ratio(1, 0, false, 0), 2);
        is("5 to 356, cut", x.ratio(1, 0, true, 0), 14);
        is("to itself", x.ratio(1, 1, true, 0), 1000);
        is("of the only fit", village(A + stone("b", 2, 0, 0, 0)).ratio(0, 1, true, 0), 500);
        is("of the only fit, least", village(A + stone("b", 2, 0, 0, 0)).ratio(0, 1, false, 0), 500);
        StoneTrust y = village(AB + "weigh a with b in 0 by 0 even;");
        is("of one fit", y.ratio(0, 1, true, 0), 1000);
        is("of one fit, least", y.ratio(0, 1, false, 0), 1000);
    }

    private static void sums() {
        Doc.says("SUM of STONES: the least and the most that they have together in a YEAR.");
        StoneTrust x = village(AB + "weigh a with b in 0 by 0 left;");
        // 16 and 15, 17 and 15, 17 and 16.
        is("together, least", x.sum(3, 0, false, 0), 31);
        is("together, most", x.sum(3, 0, true, 0), 33);
        StoneTrust worn = village("pound 0 from 20 to 20;" + stone("a", 1, 0, 1, 3) + B);
        is("one is worn away", worn.sum(3, 7, true, 0), 20);
        is("one is not quite", worn.sum(3, 6, true, 0), 23);
        is("one of them alone", worn.sum(1, 7, false, 0), 0);
        String six = "pound 0 from 40 to 40;";
        for (int i = 0; i < 6; i++) {
            six += stone("" + (char) ('a' + i), 9, 0, i < 5 ? 4 : 0, 0);
        }
        is("all of the heaviest", village(six).sum(63, 9, true, 0), 2180);
        is("all of the heaviest, least", village(six).sum(63, 9, false, 0), 2140);
    }

    private static void thumbs() {
        Doc.says("the fewest TRADERS, besides those DOUBTED, who have to be DOUBTED so that there is a FIT (0 if there is "
            + "one)");
        is("no weighings", village(AB).thumbs(0), 0);
        is("no stones", new StoneTrust().thumbs(0), 0);
        StoneTrust x = village(AB + "weigh a with b in 0 by 0 left;weigh a with b in 0 by 9 right;"
            + "weigh b with a in 0 by 4 left;");
        is("one against two", x.thumbs(0), 1);
        x.doubt(0, true);
        is("who is doubted already", x.thumbs(0), 0);
        x.doubt(0, false);
        x.doubt(4, true);
        Doc.says("of like ones the least number (as bits)");
        is("0 or 9", x.thumbs(0), 1);
        x.doubt(0, true);
        is("one is left", x.thumbs(0), 0);
        StoneTrust nine = village(AB + "weigh a with b in 0 by 9 left;weigh a with b in 0 by 9 right;");
        is("trader 9 alone", nine.thumbs(0), 512);
        // Two of three have to go: 1 and 2 (6), 1 and 3 (10), 2 and 3 (12).
        StoneTrust two = village(AB + "weigh a with b in 0 by 3 left;weigh a with b in 0 by 2 right;"
            + "weigh a with b in 0 by 1 even;");
        is("two of three", two.thumbs(0), 6);
        // One of greater number ahead of two of lesser ones.
        StoneTrust fewer = village(AB + "weigh a with b in 0 by 0 left;weigh a with b in 0 by 1 left;"
            + "weigh a with b in 0 by 9 right;");
        is("fewer ahead of less", fewer.thumbs(0), 512);
        Doc.says("none if none do (a master's span, say)");
        StoneTrust none = village(AB + "master a from 18 to 400;weigh a with b in 0 by 3 left;");
        is("a master's span", none.thumbs(0), NONE);
        none.doubt(3, true);
        is("without traders", none.thumbs(0), NONE);
    }

    private static void thumbsSpent() {
        Doc.says("SPENT, too: if the numbers multiplied are more than 20,000, or more than 6 TRADERS who are not DOUBTED "
            + "have WEIGHINGS that count");
        StringBuilder just = new StringBuilder("arms 90 to 91;pound 0 from 4 to 7;pound 1 from 4 to 7;");
        for (int i = 0; i < 4; i++) {
            just.append(stone("" + (char) ('a' + i), 1, 0, 2, 0));
        }
        is("20,000", village(just.toString()).thumbs(0), 0);
        StoneTrust above = village("arms 90 to 93;pound 0 from 4 to 7;pound 1 from 4 to 7;" + stone("a", 1, 0, 2, 0)
            + stone("b", 1, 0, 3, 0) + stone("c", 1, 0, 4, 0));
        is("20,160", above.thumbs(0), SPENT);
        is("though fits are told", above.fits(0) > 0, true);
        StoneTrust x = village(AB + "weigh a with b in 0 by 0 left;weigh a with b in 0 by 1 left;"
            + "weigh a with b in 0 by 2 left;weigh a with b in 0 by 3 left;weigh a with b in 0 by 4 left;"
            + "weigh a with b in 0 by 5 left;");
        is("six traders", x.thumbs(0), 0);
        is("traders 4 to 9", village(AB + "weigh a with b in 0 by 4 left;weigh a with b in 0 by 5 left;"
            + "weigh a with b in 0 by 6 left;weigh a with b in 0 by 7 left;weigh a with b in 0 by 8 left;"
            + "weigh a with b in 0 by 9 left;").thumbs(0), 0);
        x.later(1);
        is("a seventh", x.weighed(1, 2, 0, 9, 0), 0);
        is("seven traders, though there is a fit", x.thumbs(1), SPENT);
        is("six ahead of it", x.thumbs(0), 0);
        x.doubt(3, true);
        is("one of them doubted", x.thumbs(1), 0);
        x.doubt(3, false);
        x.later(1);
        x.untell(0);
        is("the seventh untold", x.thumbs(2), 0);
        is("as it was known", x.thumbs(1), SPENT);
        is("the sixth twice", x.weighed(1, 2, 0, 5, 1), 1);
        is("six traders still", x.thumbs(2), 32);
    }
}
