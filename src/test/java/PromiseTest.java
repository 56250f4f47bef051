/** Promise by promise: answers that were worked out by hand from the document. */
public final class PromiseTest {
    private static final int NONE = -1;
    private static final int SPENT = -2;
    private static final int NO_DEBT = -2000000000;

    public static void main(String[] args) {
        newObject();
        tape();
        villageStays();
        weighings();
        times();
        doubts();
        fitsInOrder();
        weightsThatCanBe();
        spent();
        liars();
        trials();
        clearing();
        arms();
        debts();
        wear();
        goods();
        ratios();
        thumbs();
        withoutFits();
        Check.end();
    }

    private static void is(String what, Object got, Object due) {
        Check.same(what, got, due);
    }

    private static String stone(String name, int says, int town, int off, int worn) {
        return "stone " + name + " says " + says + " in " + town + " off " + off + " worn " + worn + ";";
    }

    private static void newObject() {
        StoneTrust x = new StoneTrust();
        for (int what = 0; what <= 6; what++) {
            is("about " + what, x.about(what), 0);
        }
        is("about 7", x.about(7), NONE);
        is("about -1", x.about(-1), NONE);
        is("fault 0", x.fault(0), 0);
        is("fault 1", x.fault(1), NONE);
        is("fits", x.fits(0), 1);
        is("arm of the one fit", x.fit(0, 0, 0), 100);
        is("pound of the one fit", x.fit(0, 2, 0), 16);
        is("no stone", x.fit(0, 3, 0), NONE);
        is("sum of none", x.sum(0, 0, true, 0), NONE);
        is("empty tape is a village", x.village(), 0);
    }

    private static void tape() {
        StoneTrust x = new StoneTrust();
        for (int i = 1; i <= 65; i++) {
            is("feed " + i, x.feed(0, 0, 0, 0, 0), 20 * i);
        }
        is("feed beyond", x.feed(0, 0, 0, 0, 0), NONE);
        is("end beyond", x.end(1301), NONE);
        is("end below 0", x.end(-1), NONE);
        is("still all", x.about(5), 1300);
        is("end 1281", x.end(1281), 1281);
        is("feed at 1281", x.feed(0, 0, 0, 0, 0), NONE);
        is("end 1280", x.end(1280), 1280);
        is("feed at 1280", x.feed(0, 0, 0, 0, 0), 1300);
        is("end 0", x.end(0), 0);
        // "feel 3;" with the highest byte first.
        is("feed bytes", x.feed(0x6665656c, 0x20333b20, -1, Integer.MIN_VALUE, 7), 20);
        is("bad bytes behind", x.village(), NONE);
        is("their place", x.fault(1), 8);
        is("end 7", x.end(7), 7);
        is("village", x.village(), 1);
    }

    private static void villageStays() {
        StoneTrust x = Feeder.village(stone("a", 1, 0, 1, 0) + stone("b", 1, 0, 1, 0) + "sale a in 0 by 0 price 1;");
        is("weighed", x.weighed(1, 2, 0, 3, 2), 0);
        x.doubt(4, true);
        x.later(5);
        is("fits", x.fits(0), 3);
        is("a fault", Feeder.read(x, "feel 1;feel"), NONE);
        is("tape stays", x.about(5), 11);
        is("stones stay", x.about(0), 2);
        is("others stay", x.about(2), 1);
        is("sales stay", x.about(3), 1);
        is("doubts stay", x.about(6), 16);
        is("fits stay", x.fits(0), 3);
        x.end(6);
        is("fault till the next village", x.fault(0), 2);
        is("no sign", x.village(), NONE);
        is("at the end", x.fault(1), 6);
        Feeder.feed(x, ";");
        is("a village", x.village(), 1);
        is("no fault", x.fault(0), 0);
        is("no place", x.fault(1), NONE);
        is("no stones", x.about(0), 0);
        is("no others", x.about(2), 0);
        is("no sales", x.about(3), 0);
        is("no doubts", x.about(6), 0);
        is("the time goes on", x.about(4), 5);
        is("an empty tape", x.about(5), 0);
        is("one fit", x.fits(0), 1);
        is("nothing to untell", x.untell(0), false);
    }

    private static void weighings() {
        StoneTrust x = Feeder.village(stone("a", 1, 0, 0, 0) + stone("b", 1, 0, 0, 0));
        int[][] cannot = {{0, 1, 0, 0, 2}, {1, 0, 0, 0, 2}, {1, 1, 0, 0, 2}, {3, 1, 0, 0, 2}, {1, 4, 0, 0, 2},
            {-1, 2, 0, 0, 2}, {1, -2, 0, 0, 2}, {1, 2, -1, 0, 2}, {1, 2, 10, 0, 2}, {1, 2, 0, -1, 2}, {1, 2, 0, 10, 2},
            {1, 2, 0, 0, -1}, {1, 2, 0, 0, 3}, {Integer.MIN_VALUE, 1, 0, 0, 0}, {Integer.MAX_VALUE, 1, 0, 0, 0}};
        for (int[] c : cannot) {
            is("weighed that can't be", x.weighed(c[0], c[1], c[2], c[3], c[4]), NONE);
        }
        is("none told", x.about(2), 0);
        for (int i = 0; i < 30; i++) {
            is("weighed", x.weighed(1, 2, 9, 9, 2), i);
        }
        is("the 31st", x.weighed(1, 2, 0, 0, 2), NONE);
        is("untell", x.untell(29), true);
        is("untold ones count among 30", x.weighed(1, 2, 0, 0, 2), NONE);
        is("untell again", x.untell(29), false);
        is("untell 30", x.untell(30), false);
        is("untell -1", x.untell(-1), false);
        is("others", x.about(2), 30);
        is("of the text", x.about(1), 0);
    }

    private static void times() {
        StoneTrust x = Feeder.village(stone("a", 1, 0, 1, 0) + stone("b", 1, 0, 0, 0));
        is("later 0", x.later(0), 0);
        is("later -1", x.later(-1), NONE);
        is("later 1001", x.later(1001), NONE);
        is("later 10", x.later(10), 10);
        is("weighed at 10", x.weighed(1, 2, 0, 0, 0), 0);
        is("later", x.later(5), 15);
        is("untold at 15", x.untell(0), true);
        is("before it was told", x.fits(9), 3);
        is("as it was told", x.fits(10), 1);
        is("ahead of being untold", x.fits(14), 1);
        is("as it was untold", x.fits(15), 3);
        is("ever behind", x.fits(Integer.MAX_VALUE), 3);
        is("ever ahead", x.fits(Integer.MIN_VALUE), 3);
        is("told and untold at once", x.weighed(1, 2, 0, 0, 1), 1);
        is("untell", x.untell(1), true);
        is("never counts", x.fits(15), 3);
        is("told", x.weighed(1, 2, 0, 0, 2), 2);
        is("told for good", x.fits(Integer.MAX_VALUE), 1);
        for (int i = 0; i < 99; i++) {
            x.later(1000);
        }
        is("time", x.about(4), 99015);
        is("beyond the last", x.later(986), NONE);
        is("the last", x.later(985), 100000);
        is("no further", x.later(1), NONE);
        is("but 0", x.later(0), 100000);
    }

    private static void doubts() {
        StoneTrust x = Feeder.village(stone("a", 1, 0, 1, 0) + stone("b", 1, 0, 0, 0)
            + "weigh a with b in 0 by 3 left;");
        is("fits", x.fits(0), 1);
        is("weighed", x.weighed(2, 1, 0, 4, 0), 0);
        is("none", x.fits(0), 0);
        is("doubt -1", x.doubt(-1, true), false);
        is("doubt 10", x.doubt(10, true), false);
        is("doubt not", x.doubt(3, false), false);
        is("doubt 3", x.doubt(3, true), true);
        is("doubt 3 again", x.doubt(3, true), false);
        is("of the text it does not count", x.span(3, true, 0), 15);
        is("doubt 4", x.doubt(4, true), true);
        is("as bits", x.about(6), 24);
        is("all are free", x.fits(0), 3);
        is("trust 3", x.doubt(3, false), true);
        is("of others it does not count", x.span(3, false, 0), 17);
        is("as bits then", x.about(6), 16);
    }

    private static void fitsInOrder() {
        // POUND 0 is 2 or 3, POUND 1 is 5; a is at most 1 off.
        StoneTrust x = Feeder.village("arms 100 to 101;pound 0 from 2 to 3;pound 1 from 5 to 5;"
            + stone("a", 2, 0, 1, 0) + stone("b", 1, 1, 0, 0) + "weigh a with b in 0 by 0 even;");
        // ARM 101 is never even: 100 a is no multiple of 505. ARM 100: a is 5 with either POUND.
        is("fits", x.fits(0), 2);
        int[][] due = {{100, 2, 5, 5, 5}, {100, 3, 5, 5, 5}};
        for (int i = 0; i < 2; i++) {
            for (int what = 0; what < 5; what++) {
                is("fit " + i + " " + what, x.fit(i, what, 0), due[i][what]);
            }
            is("fit of another what", x.fit(i, 5, 0), NONE);
            is("fit of what -1", x.fit(i, -1, 0), NONE);
        }
        is("fit -1", x.fit(-1, 0, 0), NONE);
        is("fit 2", x.fit(2, 0, 0), NONE);
        is("span low", x.span(1, false, 0), 2);
        is("span high", x.span(1, true, 0), 3);
        is("span of another", x.span(5, true, 0), NONE);
        is("span of -1", x.span(-1, true, 0), NONE);
        StoneTrust y = Feeder.village("arms 99 to 100;pound 0 from 7 to 8;pound 1 from 7 to 8;"
            + stone("a", 1, 0, 1, 0) + stone("b", 1, 1, 1, 0));
        is("fits", y.fits(0), 72);
        // Ordered by the ARM (36 each), POUND 0 (18), POUND 1 (9), a (3), b.
        int i = 36 + 18 + 9 + 3 * 2 + 1;
        int[] at = {100, 8, 8, 9, 8};
        for (int what = 0; what < 5; what++) {
            is("fit in order " + what, y.fit(i, what, 0), at[what]);
        }
    }

    private static void weightsThatCanBe() {
        StoneTrust x = Feeder.village("pound 0 from 1 to 2;" + stone("a", 1, 0, 4, 0));
        // 1 .. 5 and 1 .. 6: no weight below 1.
        is("one grain at least", x.fits(0), 11);
        is("least", x.span(3, false, 0), 1);
        is("most", x.span(3, true, 0), 6);
        StoneTrust y = Feeder.village(stone("a", 1, 0, 4, 0) + "master a from 0 to 13;");
        is("a master's span", y.fits(0), 2);
        is("its top", y.span(3, true, 0), 13);
        StoneTrust z = Feeder.village(stone("a", 1, 0, 4, 0) + "master a from 21 to 400;");
        is("outside of the master's span", z.fits(0), 0);
        StoneTrust feel = Feeder.village("feel 1;" + stone("a", 1, 0, 4, 0) + stone("b", 1, 0, 0, 0)
            + "weigh a with b in 0 by 0 even;");
        is("even by the feel", feel.fits(0), 3);
        StoneTrust left = Feeder.village("feel 1;" + stone("a", 1, 0, 4, 0) + stone("b", 1, 0, 0, 0)
            + "weigh a with b in 0 by 0 left;");
        is("left beyond the feel", left.span(3, false, 0), 18);
        StoneTrust right = Feeder.village("feel 1;" + stone("a", 1, 0, 4, 0) + stone("b", 1, 0, 0, 0)
            + "weigh a with b in 0 by 0 right;");
        is("right beyond the feel", right.span(3, true, 0), 14);
        // The least that is more than the feel: 100 less 99, and 100 less 101.
        String grains = "pound 0 from 1 to 1;" + stone("a", 1, 0, 0, 0) + stone("b", 1, 0, 0, 0);
        is("1 is left", Feeder.village("arms 99 to 99;" + grains + "weigh a with b in 0 by 0 left;").fits(0), 1);
        is("1 is left of b", Feeder.village("arms 99 to 99;" + grains + "weigh b with a in 0 by 0 left;").fits(0), 1);
        is("-1 is right", Feeder.village("arms 101 to 101;" + grains + "weigh a with b in 0 by 0 right;").fits(0), 1);
        is("-1 is right of b", Feeder.village("arms 101 to 101;" + grains + "weigh b with a in 0 by 0 right;").fits(0), 1);
        is("1 is not even", Feeder.village("arms 99 to 99;" + grains + "weigh a with b in 0 by 0 even;").fits(0), 0);
        is("-1 is not even", Feeder.village("arms 101 to 101;" + grains + "weigh b with a in 0 by 0 even;").fits(0), 0);
    }

    private static void spent() {
        String wide = "arms 90 to 95;pound 0 from 4 to 7;pound 1 from 4 to 7;";
        StringBuilder five = new StringBuilder(wide);
        for (char c = 'a'; c <= 'e'; c++) {
            five.append(stone("" + c, 1, 0, 2, 0));
        }
        StoneTrust x = Feeder.village(five.toString());
        is("300,000 are not too many", x.fits(0), 300000);
        is("the last one", x.fit(299999, 7, 0), 9);
        is("behind the last one", x.fit(300000, 7, 0), NONE);
        is("next of too many", x.next(0, 0), SPENT);
        is("next of another what", x.next(2, 0), NONE);
        is("clear of too many", x.clear(0, 0, 0), SPENT);
        is("clear of no stone", x.clear(5, 0, 0), NONE);
        is("thumbs of too many", x.thumbs(0), SPENT);
        is("parts are told all the same", x.parts(5, 0, 0) + x.parts(5, 1, 0) + x.parts(5, 2, 0), 300000);
        allSpent(Feeder.village(five + stone("f", 1, 0, 1, 0) + "sale a in 0 by 0 price 1;"));
        StringBuilder four = new StringBuilder("arms 90 to 91;pound 0 from 4 to 7;pound 1 from 4 to 7;");
        for (char c = 'a'; c <= 'd'; c++) {
            four.append(stone("" + c, 1, 0, 2, 0));
        }
        is("thumbs of 20,000", Feeder.village(four.toString()).thumbs(0), 0);
        is("thumbs of 60,000", Feeder.village(four + stone("e", 1, 0, 1, 0)).thumbs(0), SPENT);
        String three = "pound 0 from 4 to 7;pound 1 from 4 to 7;" + stone("a", 1, 0, 2, 0) + stone("b", 1, 0, 2, 0);
        StoneTrust y = Feeder.village(three + stone("c", 1, 0, 2, 0));
        is("2,000", y.fits(0), 2000);
        is("next of 2,000", y.next(1, 0) > 0, true);
        is("clear of 2,000", y.clear(0, 0, 0), SPENT);
        StoneTrust z = Feeder.village("arms 90 to 95;" + stone("a", 1, 0, 2, 0) + stone("b", 1, 0, 2, 0));
        is("150", z.fits(0), 150);
        is("clear of 150", z.clear(0, 0, 0) != SPENT, true);
        StoneTrust more = Feeder.village("arms 90 to 96;" + stone("a", 1, 0, 2, 0) + stone("b", 1, 0, 2, 0));
        is("clear of 175", more.clear(0, 0, 0), SPENT);
    }

    private static void allSpent(StoneTrust x) {
        is("fits", x.fits(0), SPENT);
        is("fit", x.fit(0, 0, 0), NONE);
        is("span", x.span(0, true, 0), SPENT);
        is("isFalse", x.isFalse(0, 0), SPENT);
        is("fewest", x.fewest(0), SPENT);
        is("sets", x.sets(0), SPENT);
        is("set", x.set(0, 0), NONE);
        is("next", x.next(1, 0), SPENT);
        is("parts", x.parts(5, 0, 0), SPENT);
        is("clear", x.clear(0, 1, 0), SPENT);
        is("arm", x.arm(0), SPENT);
        is("swap", x.swap(1, 2, 0), SPENT);
        is("owed", x.owed(0, true, 0), NO_DEBT);
        is("debt", x.debt(0, true, 0), NO_DEBT);
        is("joined", x.joined(true, 0), SPENT);
        is("lieYear", x.lieYear(0, 0), NONE);
        is("goods", x.goods(1, true, 0, true, 0), SPENT);
        is("twice", x.twice(1, 1, 0, true, 0), SPENT);
        is("ratio", x.ratio(0, 1, true, 0), SPENT);
        is("sum", x.sum(1, 0, true, 0), SPENT);
        is("thumbs", x.thumbs(0), SPENT);
        is("a wrong stone is told first", x.isFalse(6, 0), NONE);
        is("a wrong what is told first", x.span(9, true, 0), NONE);
    }

    private static void liars() {
        // a is 15 .. 17, b is 15 .. 17, and a is heavier: one of both lies at least.
        StoneTrust x = Feeder.village(stone("a", 1, 0, 1, 0) + stone("b", 1, 0, 1, 0) + stone("c", 1, 0, 0, 0)
            + "weigh a with b in 0 by 0 left;");
        is("fits", x.fits(0), 3);
        is("fewest", x.fewest(0), 1);
        is("sets", x.sets(0), 2);
        is("set 0", x.set(0, 0), 1);
        is("set 1", x.set(1, 0), 2);
        is("set 2", x.set(2, 0), NONE);
        is("set -1", x.set(-1, 0), NONE);
        is("a is not false", x.isFalse(0, 0), 0);
        is("c is as said", x.isFalse(2, 0), 0);
        is("no stone", x.isFalse(3, 0), NONE);
        is("no stone below", x.isFalse(-1, 0), NONE);
        x.weighed(2, 4, 0, 0, 0);
        // b is 17 then, and a would have to be heavier.
        is("none left", x.fits(0), 0);
        x.untell(0);
        x.weighed(1, 6, 0, 0, 1);
        x.weighed(2, 4, 0, 0, 1);
        is("b is 15", x.span(4, true, 0), 15);
        is("b is false", x.isFalse(1, 0), 1);
    }

    private static void trials() {
        StoneTrust x = Feeder.village(stone("a", 1, 0, 1, 0) + stone("b", 1, 0, 1, 0) + stone("c", 9, 0, 0, 0));
        // a with b: 3 of 9 each; c is heavier than all that can lie against it.
        is("next", x.next(0, 0), 5);
        is("its greatest part", x.next(1, 0), 3);
        is("another what", x.next(2, 0), NONE);
        is("what -1", x.next(-1, 0), NONE);
        is("b is left: left", x.parts(5, 0, 0), 3);
        is("b is left: right", x.parts(5, 1, 0), 3);
        is("b is left: even", x.parts(5, 2, 0), 3);
        is("c is left", x.parts(2 + 9, 0, 0), 9);
        is("c is right", x.parts(1 + 18, 1, 0), 9);
        is("how 3", x.parts(5, 3, 0), NONE);
        is("how -1", x.parts(5, -1, 0), NONE);
        int[] cannot = {0, 1, 2, 4, 8, -1, 27, 5 + 27, 728, Integer.MAX_VALUE, Integer.MIN_VALUE};
        for (int code : cannot) {
            is("parts of code " + code, x.parts(code, 0, 0), NONE);
        }
        StoneTrust one = Feeder.village(stone("a", 1, 0, 1, 0));
        is("one stone", one.next(0, 0), NONE);
        // b is always 16: the fewest STONES before the least code, a with b alone.
        StoneTrust few = Feeder.village(stone("c", 1, 0, 0, 0) + stone("d", 1, 0, 0, 0) + stone("a", 1, 0, 1, 0)
            + stone("b", 1, 0, 0, 0));
        is("the least code of two stones", few.next(0, 0), 2 + 9);
        is("each part one", few.next(1, 0), 1);
    }

    private static void clearing() {
        // b is 16, c is 1: a (14 .. 18, 1 not felt) is known by two TRIALS alone, b and c against a first.
        StoneTrust x = Feeder.village("feel 1;pound 1 from 1 to 1;" + stone("a", 1, 0, 2, 0) + stone("b", 1, 0, 0, 0)
            + stone("c", 1, 1, 0, 0));
        is("two trials", x.clear(0, 0, 0), 2);
        is("the first of them", x.clear(0, 1, 0), 14);
        is("b is known", x.clear(1, 0, 0), 0);
        is("so no trial", x.clear(1, 1, 0), NONE);
        is("another what", x.clear(0, 2, 0), NONE);
        is("what -1", x.clear(0, -1, 0), NONE);
        is("no stone", x.clear(3, 0, 0), NONE);
        is("no stone below", x.clear(-1, 0, 0), NONE);
        StoneTrust y = Feeder.village(stone("b", 1, 0, 0, 0) + stone("a", 1, 0, 4, 0));
        is("one trial", y.clear(1, 0, 0), 1);
        is("its code", y.clear(1, 1, 0), 5);
        StoneTrust z = Feeder.village("feel 9;" + stone("b", 1, 0, 0, 0) + stone("a", 1, 0, 4, 0));
        is("nothing is felt", z.clear(1, 0, 0), NONE);
        is("nor a code", z.clear(1, 1, 0), NONE);
        is("one stone alone", Feeder.village(stone("a", 1, 0, 1, 0)).clear(0, 0, 0), NONE);
        // Three against one would tell it, but two STONES a side are the most.
        StoneTrust w = Feeder.village("pound 0 from 10 to 10;" + stone("a", 3, 0, 1, 0) + stone("b", 1, 0, 0, 0)
            + stone("c", 1, 0, 0, 0) + stone("d", 1, 0, 0, 0));
        is("three a side are too many", w.clear(0, 0, 0), NONE);
        is("though they tell", w.parts(2 + 3 + 9 + 27, 2, 0), 1);
    }

    private static void arms() {
        StoneTrust x = Feeder.village("arms 99 to 101;" + stone("a", 1, 0, 0, 0) + stone("b", 1, 0, 0, 0));
        is("not told", x.arm(0), 0);
        // ARM 99: left, left. 100: even, even. 101: right, right.
        is("swap", x.swap(1, 2, 0), 1 + 16 + 256);
        is("no stones", x.swap(0, 2, 0), NONE);
        is("one on both", x.swap(1, 3, 0), NONE);
        is("no such", x.swap(1, 4, 0), NONE);
        is("below 0", x.swap(-1, 2, 0), NONE);
        x.weighed(1, 2, 0, 0, 0);
        is("told", x.arm(0), 1);
        is("swap then", x.swap(1, 2, 0), 1);
        StoneTrust y = Feeder.village("feel 1;arms 110 to 110;" + stone("a", 1, 0, 0, 0) + stone("b", 1, 1, 0, 0)
            + "pound 1 from 15 to 15;");
        // 1600 - 1650 is even, 1500 - 1760 is right.
        is("the sides matter", y.swap(1, 2, 0), 1 << 3 * 2 + 1);
        is("and their order", y.swap(2, 1, 0), 1 << 3 + 2);
    }

    private static void debts() {
        StoneTrust x = Feeder.village("pound 0 from 10 to 11;" + stone("a", 2, 0, 1, 3) + stone("b", 1, 1, 0, 0)
            + "sale a b in 2 by 1 price 10;sale b in 9 by 1 price 99;sale a in 0 by 2 price 1;"
            + "weigh a with b in 0 by 0 left;");
        // says 20 + 16 (22 + 16), has 13 .. 15 + 16 (15 .. 17 + 16): 5 .. 7 grains.
        is("least", x.owed(0, false, 0), 50);
        is("most", x.owed(0, true, 0), 70);
        is("nothing is owed", x.owed(1, true, 0), 0);
        is("owed back", x.owed(2, false, 0), -1);
        is("or owed", x.owed(2, true, 0), 1);
        is("no sale", x.owed(3, true, 0), NO_DEBT);
        is("no sale below", x.owed(-1, true, 0), NO_DEBT);
        is("together least", x.debt(1, false, 0), 50);
        is("together most", x.debt(1, true, 0), 70);
        is("another trader", x.debt(2, true, 0), 1);
        is("without sales", x.debt(3, true, 0), 0);
        is("no trader", x.debt(10, true, 0), NO_DEBT);
        is("no trader below", x.debt(-1, true, 0), NO_DEBT);
        is("doubts touch no sale", x.doubt(1, true) ? x.debt(1, true, 0) : 0, 70);
        is("joined least", x.joined(false, 0), 625);
        is("joined most, cut", x.joined(true, 0), 687);
        StoneTrust y = Feeder.village(stone("a", 1, 0, 1, 0) + stone("b", 1, 0, 1, 0)
            + "sale a in 0 by 5 price 2;sale b in 0 by 5 price 3;weigh a with b in 0 by 0 even;");
        // Both are 15, 16 or 17 in one FIT: 5, 0, -5.
        is("in one fit", y.debt(5, true, 0), 5);
        is("in one fit least", y.debt(5, false, 0), -5);
    }

    private static void wear() {
        StoneTrust x = Feeder.village(stone("a", 1, 0, 2, 1) + stone("b", 1, 0, 2, 0) + stone("c", 1, 0, 0, 3));
        // a is 18 at most: 16 in YEAR 2, less in YEAR 3.
        is("year of a lie", x.lieYear(0, 0), 3);
        is("never worn", x.lieYear(1, 0), NONE);
        is("worn at once", x.lieYear(2, 0), 1);
        is("no stone", x.lieYear(3, 0), NONE);
        is("no stone below", x.lieYear(-1, 0), NONE);
        is("sum in year 0", x.sum(5, 0, true, 0), 34);
        is("sum in year 2", x.sum(5, 2, false, 0), 22);
        is("never below 0", x.sum(4, 9, false, 0), 0);
        is("year 5", x.sum(4, 5, true, 0), 1);
        is("year -1", x.sum(4, -1, true, 0), NONE);
        is("year 10", x.sum(4, 10, true, 0), NONE);
        is("no stones", x.sum(0, 0, true, 0), NONE);
        is("no such stones", x.sum(8, 0, true, 0), NONE);
        x.weighed(1, 4, 9, 0, 0);
        is("what is worn away weighs 0", x.fits(0), 25);
        x.weighed(2, 1, 9, 0, 2);
        // b is a less 9 grains, which can't be.
        is("worn a weighs less", x.fits(0), 0);
    }

    private static void goods() {
        StoneTrust x = Feeder.village("arms 90 to 90;feel 1;" + stone("a", 1, 0, 0, 3));
        // 1340 .. 1540 hundredths lay left; 1500 .. 1700 for 90 each lay right.
        is("left least", x.goods(1, true, 0, false, 0), 14);
        is("left most", x.goods(1, true, 0, true, 0), 15);
        is("right least", x.goods(1, false, 0, false, 0), 17);
        is("right most", x.goods(1, false, 0, true, 0), 18);
        is("not both", x.twice(1, 1, 0, true, 0), NONE);
        is("worn away: none at all", x.goods(1, true, 9, false, 0), 0);
        is("worn away: one is not felt", x.goods(1, true, 9, true, 0), 1);
        is("no stones", x.goods(0, true, 0, true, 0), NONE);
        is("no such stone", x.goods(2, true, 0, true, 0), NONE);
        is("below 0", x.goods(-1, true, 0, true, 0), NONE);
        is("year 10", x.goods(1, true, 10, true, 0), NONE);
        is("year -1", x.goods(1, true, -1, true, 0), NONE);
        StoneTrust y = Feeder.village("arms 90 to 90;feel 9;" + stone("a", 1, 0, 0, 0));
        // 540 .. 2340 hundredths, and 700 .. 2500 for 90 each.
        is("both least", y.twice(1, 1, 0, false, 0), 8);
        is("both most", y.twice(1, 1, 0, true, 0), 23);
        StoneTrust z = Feeder.village("arms 101 to 101;" + stone("a", 1, 0, 0, 0));
        is("no whole grains", z.goods(1, true, 0, true, 0), NONE);
        is("nor right", z.goods(1, false, 0, true, 0), NONE);
        StoneTrust w = Feeder.village(stone("a", 1, 0, 2, 0) + stone("b", 1, 0, 0, 0) + stone("c", 1, 0, 1, 0));
        is("twice in one fit", w.twice(1, 4, 0, false, 0), 15);
        is("twice in one fit most", w.twice(1, 4, 0, true, 0), 17);
        is("twice with others", w.twice(1, 6, 0, true, 0), NONE);
        is("no stones on the right", w.twice(0, 1, 0, true, 0), NONE);
        is("no stones on the left", w.twice(1, 0, 0, true, 0), NONE);
        is("no such on the right", w.twice(8, 1, 0, true, 0), NONE);
        is("no such year", w.twice(1, 1, 10, true, 0), NONE);
        // Which side is which: the first STONES lie right, against goods that lie left.
        StoneTrust sides = Feeder.village("arms 110 to 110;feel 2;pound 0 from 10 to 10;pound 1 from 12 to 12;"
            + stone("a", 1, 0, 0, 0) + stone("b", 1, 1, 0, 0));
        // a right: 900 .. 1300, so 9 .. 13; b left: 1000 .. 1400 for 110, so 10 .. 12.
        is("a right, b left, least", sides.twice(1, 2, 0, false, 0), 10);
        is("a right, b left, most", sides.twice(1, 2, 0, true, 0), 12);
        // b right: 1120 .. 1520, so 12 .. 15; a left: 800 .. 1200 for 110, so 8 .. 10.
        is("b right, a left", sides.twice(2, 1, 0, true, 0), NONE);
    }

    private static void ratios() {
        StoneTrust x = Feeder.village("pound 0 from 3 to 3;" + stone("a", 1, 0, 1, 3) + stone("b", 2, 0, 1, 0));
        // a is 2 .. 4, b is 5 .. 7, in YEAR 0.
        is("least, cut", x.ratio(0, 1, false, 0), 285);
        is("most", x.ratio(0, 1, true, 0), 800);
        is("the other way", x.ratio(1, 0, true, 0), 3500);
        is("of one with itself", x.ratio(0, 0, true, 0), 1000);
        is("no stone", x.ratio(0, 2, true, 0), NONE);
        is("no stone below", x.ratio(-1, 0, true, 0), NONE);
    }

    private static void thumbs() {
        String ab = stone("a", 1, 0, 1, 0) + stone("b", 1, 0, 1, 0);
        StoneTrust x = Feeder.village(ab + "weigh a with b in 0 by 3 left;weigh a with b in 0 by 1 right;"
            + "weigh b with a in 0 by 5 right;");
        // 3 and 5 say a is heavier, 1 says b is.
        is("the fewest", x.thumbs(0), 2);
        x.doubt(5, true);
        is("of like ones the least number", x.thumbs(0), 2);
        x.doubt(1, true);
        is("there is a fit", x.thumbs(0), 0);
        x.doubt(5, false);
        x.doubt(1, false);
        x.later(1);
        x.weighed(1, 2, 0, 1, 2);
        x.weighed(1, 2, 0, 0, 1);
        x.weighed(1, 2, 0, 7, 1);
        // Right: 1 (who says even, too), 0 and 7; left: 3 and 5.
        is("as known at 0", x.thumbs(0), 2);
        is("as known at 1", x.thumbs(1), 2 + 8 + 32);
        for (int trader = 0; trader <= 6; trader++) {
            x.weighed(1, 2, 0, trader, 1);
        }
        is("eight traders", x.thumbs(1), SPENT);
        x.doubt(6, true);
        is("seven traders", x.thumbs(1), SPENT);
        x.doubt(4, true);
        is("six traders", x.thumbs(1), 2 + 8 + 32);
        StoneTrust y = Feeder.village(ab + "master a from 400 to 400;weigh a with b in 0 by 3 left;");
        is("no trader's fault", y.thumbs(0), NONE);
    }

    private static void withoutFits() {
        StoneTrust x = Feeder.village(stone("a", 1, 0, 1, 0) + stone("b", 1, 0, 1, 0)
            + "master a from 1 to 1;sale a in 0 by 0 price 1;");
        is("fits", x.fits(0), 0);
        is("fit", x.fit(0, 0, 0), NONE);
        is("span", x.span(0, true, 0), NONE);
        is("isFalse", x.isFalse(0, 0), NONE);
        is("fewest", x.fewest(0), NONE);
        is("sets", x.sets(0), 0);
        is("set", x.set(0, 0), NONE);
        is("next", x.next(0, 0), NONE);
        is("next part", x.next(1, 0), NONE);
        is("parts", x.parts(5, 0, 0), 0);
        is("clear", x.clear(0, 0, 0), NONE);
        is("arm", x.arm(0), NONE);
        is("swap", x.swap(1, 2, 0), NONE);
        is("owed", x.owed(0, true, 0), NO_DEBT);
        is("debt", x.debt(0, true, 0), NO_DEBT);
        is("joined", x.joined(true, 0), NONE);
        is("lieYear", x.lieYear(0, 0), NONE);
        is("goods", x.goods(1, true, 0, true, 0), NONE);
        is("twice", x.twice(1, 2, 0, true, 0), NONE);
        is("ratio", x.ratio(0, 1, true, 0), NONE);
        is("sum", x.sum(1, 0, true, 0), NONE);
    }
}
