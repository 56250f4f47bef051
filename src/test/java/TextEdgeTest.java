/** "Terms": each sentence that bounds the text, its TOKENS, its lines or its FAULTS, with a test of its own. */
public final class TextEdgeTest {
    private static final String A = Reading.stone("a", 1, 0, 0, 0);
    private static final String B = Reading.stone("b", 1, 0, 0, 0);
    private static final String STONE_END = " says 1 in 0 off 0 worn 0;";
    private static final String WEIGH_END = " in 0 by 0 even;";
    private static final String SALE_END = " in 0 by 0 price 1;";
    private static final String[] OWN_WORDS = {"arms", "to", "feel", "pound", "from", "stone", "says", "in", "off",
        "worn", "master", "weigh", "with", "by", "left", "right", "even", "sale", "price"};

    public static void main(String[] args) {
        bytes();
        words();
        numbers();
        signs();
        blanks();
        longTokens();
        letterBehindNumber();
        ownWords();
        armsAndFeelOnce();
        armsBounds();
        feelBounds();
        armsAndFeelNotTold();
        poundsOfTowns();
        poundBounds();
        poundNotTold();
        sixStones();
        stoneBounds();
        masters();
        masterBounds();
        weighAndSaleLines();
        stonesToldAhead();
        weighAndSaleBounds();
        noStoneTwice();
        firstFault();
        leastFault();
        faultNoToken();
        faultOutOfPlace();
        faultToldAlready();
        faultNumber();
        faultNoStone();
        Check.end();
    }

    private static void right(String text, int lines) {
        Reading.right(text, lines);
    }

    private static void wrong(int fault, String marked) {
        Reading.wrong(fault, marked);
    }

    private static void is(String what, Object got, Object due) {
        Check.same(what, got, due);
    }

    private static void bytes() {
        Doc.says("A VILLAGE is a text of at most 1,300 bytes (empty at first)");
        right("feel 1;" + " ".repeat(1293), 1);
        right("\n".repeat(1293) + "feel 1;", 1);
        right(" ".repeat(1300), 0);
        wrong(2, " ".repeat(1294) + "feel 1|");
        wrong(1, " ".repeat(1299) + "|?");
        wrong(1, "|" + "a".repeat(1300));
        wrong(1, "feel |" + "1".repeat(1295));
        wrong(2, "|" + ";".repeat(1300));
        StoneTrust x = new StoneTrust();
        is("stones at first", x.about(0), 0);
        is("weighings at first", x.about(1), 0);
        is("sales at first", x.about(3), 0);
        is("fits at first", x.fits(0), 1);
        is("lines of no bytes", x.village(), 0);
    }

    private static void words() {
        Doc.says("words (a .. z, 8 at most)");
        right("stone a" + STONE_END, 1);
        right("stone z" + STONE_END, 1);
        right("stone abcdefgh" + STONE_END, 1);
        right("stone zzzzzzzz" + STONE_END, 1);
        wrong(1, "stone |abcdefghi" + STONE_END);
        wrong(1, "stone |zzzzzzzzz" + STONE_END);
        wrong(1, "|stonestone a" + STONE_END);
        wrong(1, A + "sale a |abcdefghi" + SALE_END);
        wrong(1, "stone |`" + STONE_END);
        wrong(1, "stone |{" + STONE_END);
        wrong(1, "stone |A" + STONE_END);
        wrong(1, "stone a|Z" + STONE_END);
        wrong(1, "stone |_" + STONE_END);
        right(A + "stone aaaaaaaa" + STONE_END + "stone aaaaaaa" + STONE_END, 3);
    }

    private static void numbers() {
        Doc.says("N (1 to 4 digits)");
        right("feel 0;", 1);
        right("feel 9;", 1);
        right("feel 09;", 1);
        right("feel 009;", 1);
        right("feel 0009;", 1);
        wrong(1, "feel |00009;");
        wrong(1, "feel |10000;");
        wrong(4, "feel |9999;");
        wrong(1, "feel |99999;");
        wrong(1, "feel |4294967296;");
        wrong(1, "feel |/;");
        wrong(1, "feel |:;");
        wrong(1, "feel |-1;");
        wrong(1, "feel 1|.0;");
        wrong(2, "feel |;");
    }

    private static void signs() {
        Doc.says("sign ;");
        right("feel 1;", 1);
        wrong(1, "feel 1|:");
        wrong(1, "feel 1|<");
        wrong(1, "feel 1|,");
        wrong(2, "feel 1|");
        wrong(2, "feel 1;|;");
        wrong(2, "|;feel 1;");
    }

    private static void blanks() {
        Doc.says("blanks (32, 10) part them or not");
        right("arms90 to96;feel9;pound0 from1 to1;", 3);
        right("stone a says1 in0 off0 worn0;master a from0 to0;", 2);
        right(" \n feel \n 1 \n ; \n ", 1);
        right("feel\n1\n;\narms\n90\nto\n90\n;", 2);
        right(A + B + "weigh a\nwith\nb in0 by0\neven\n;sale a\nb in0 by0 price0;", 4);
        wrong(2, A + B + "weigh a with b in 0 by 0 |ev en;");
        wrong(2, "feel 0 |0;");
        int[] others = {0, 1, 9, 11, 12, 13, 31, 33, 127, 128, 138, 160, 255};
        for (int sign : others) {
            wrong(1, "feel|" + (char) sign + "1;");
            wrong(1, "|" + (char) sign);
        }
    }

    private static void longTokens() {
        Doc.says("each is as long as can be");
        wrong(2, "|feelx 1;");
        wrong(2, "|feelfeel 1;");
        wrong(2, "|xfeel 1;");
        wrong(2, A + B + "weigh a with b in 0 by 0 |evenx;");
        wrong(5, A + B + "weigh |ab with b" + WEIGH_END);
        wrong(5, A + B + "sale |ab" + SALE_END);
        wrong(4, "feel |10;");
        right("stone stonea" + STONE_END + "stone ston" + STONE_END, 2);
    }

    private static void letterBehindNumber() {
        Doc.says("no letter directly behind an N");
        wrong(1, "feel |1x;");
        wrong(1, "feel |1a");
        wrong(1, "feel |1z");
        wrong(1, "feel |9999z;");
        wrong(1, "arms |90to 96;");
        wrong(1, "stone a says |1in 0 off 0 worn 0;");
        wrong(1, "|1a");
        right("arms 90 to 96;feel 1;", 2);
        right("arms 90\nto 96;", 1);
        right("feel 1;" + A, 2);
        wrong(1, "feel 1|`;");
        wrong(1, "feel 1|{;");
    }

    private static void ownWords() {
        Doc.says("Words that stand for themselves here are no NAMES.");
        for (String word : OWN_WORDS) {
            wrong(2, "stone |" + word + STONE_END);
            wrong(2, A + "master |" + word + " from 0 to 1;");
            wrong(2, A + B + "weigh |" + word + " with b" + WEIGH_END);
            wrong(2, A + B + "weigh a with |" + word + WEIGH_END);
            wrong(2, A + "sale |" + word + SALE_END);
            right("stone x" + word + STONE_END + "stone " + word + "x" + STONE_END, 2);
        }
        right("stone arm" + STONE_END + "stone stones" + STONE_END + "stone village" + STONE_END, 3);
    }

    private static void armsAndFeelOnce() {
        Doc.says("arms, feel: each once");
        right("arms 90 to 90;feel 1;", 2);
        right("feel 1;arms 90 to 90;", 2);
        wrong(2, "arms 90 to 90; |arms 90 to 90;");
        wrong(2, "feel 0;\n|feel 0;");
        wrong(2, "feel 0;arms 100 to 100;|feel");
    }

    private static void armsBounds() {
        Doc.says("the right ARM, as the left one is 100: 90 .. 110");
        right("arms 90 to 90;", 1);
        right("arms 110 to 110;", 1);
        wrong(4, "arms |89 to 90;");
        wrong(4, "arms |0 to 90;");
        wrong(4, "arms |111 to 111;");
        wrong(4, "arms 105 to |111;");
        wrong(4, "arms 110 to |111;");
        Doc.says("the second not below the first");
        right("arms 100 to 100;", 1);
        right("arms 100 to 101;", 1);
        wrong(4, "arms 100 to |99;");
        wrong(4, "arms 90 to |89;");
        wrong(4, "arms 110 to |0;");
        Doc.says("at most 6 above it");
        right("arms 90 to 96;", 1);
        wrong(4, "arms 90 to |97;");
        right("arms 104 to 110;", 1);
        wrong(4, "arms 103 to |110;");
        StoneTrust wide = Feeder.village("arms 104 to 110;");
        is("arms that can be", wide.fits(0), 7);
        is("the least", wide.span(0, false, 0), 104);
        is("the greatest", wide.span(0, true, 0), 110);
    }

    private static void feelBounds() {
        Doc.says("FEEL 0 .. 9");
        Reading.bounds("feel ", 0, 9, ";");
        // 25 against 16: 9 grains are felt by a FEEL of 8, not of 9.
        String nine = "pound 0 from 25 to 25;" + A + Reading.stone("b", 1, 1, 0, 0);
        is("feel 8", Feeder.village("feel 8;" + nine).swap(1, 2, 0), 1 << 1);
        is("feel 9", Feeder.village("feel 9;" + nine).swap(1, 2, 0), 1 << 8);
    }

    private static void armsAndFeelNotTold() {
        Doc.says("100 to 100 and 0 if not told");
        StoneTrust x = Feeder.village(Reading.stone("a", 1, 0, 1, 0) + B + "weigh a with b in 0 by 0 left;");
        is("one arm", x.arm(0), 1);
        is("which is 100", x.fit(0, 0, 0), 100);
        is("one grain is felt", x.span(3, false, 0), 17);
        StoneTrust y = Feeder.village("arms 90 to 91;feel 9;");
        Feeder.read(y, A + B);
        is("told no more: the arm", y.span(0, false, 0), 100);
        is("told no more: the arm's greatest", y.span(0, true, 0), 100);
        is("told no more: the feel", y.goods(1, true, 0, true, 0), 16);
    }

    private static void poundsOfTowns() {
        Doc.says("pound: of a TOWN 0, 1, each once");
        Reading.bounds("pound ", 0, 1, " from 1 to 1;");
        right("pound 1 from 1 to 1;pound 0 from 1 to 1;", 2);
        wrong(3, "pound 0 from 1 to 1;pound |0 from 1 to 1;");
        wrong(3, "pound 1 from 1 to 1;pound |1 from 1 to 1;");
        wrong(3, "pound 0 from 1 to 1;pound 1 from 1 to 1;pound |0 from 1 to 1;");
        wrong(4, "pound 0 from 1 to 1;pound 1 from 1 to 1;pound |2 from 1 to 1;");
        StoneTrust x = Feeder.village("pound 1 from 7 to 7;pound 0 from 5 to 5;");
        is("pound 0", x.fit(0, 1, 0), 5);
        is("pound 1", x.fit(0, 2, 0), 7);
    }

    private static void poundBounds() {
        Doc.says("(1 .. 40, at most 4 wide; 16 if not told)");
        right("pound 0 from 1 to 1;", 1);
        right("pound 0 from 40 to 40;", 1);
        wrong(4, "pound 0 from |0 to 1;");
        wrong(4, "pound 0 from |41 to 41;");
        wrong(4, "pound 0 from 40 to |41;");
        wrong(4, "pound 0 from 37 to |41;");
        right("pound 0 from 1 to 5;", 1);
        wrong(4, "pound 0 from 1 to |6;");
        right("pound 1 from 36 to 40;", 1);
        wrong(4, "pound 1 from 35 to |40;");
        wrong(4, "pound 1 from 2 to |1;");
        wrong(4, "pound 1 from 1 to |0;");
        is("pounds that can be", Feeder.village("pound 0 from 36 to 40;pound 1 from 1 to 5;").fits(0), 25);
    }

    private static void poundNotTold() {
        Doc.says("16 if not told");
        StoneTrust x = Feeder.village("pound 1 from 3 to 5;");
        is("of town 0", x.span(1, false, 0) * 100 + x.span(1, true, 0), 1616);
        StoneTrust y = Feeder.village("pound 0 from 3 to 5;");
        is("of town 1", y.span(2, false, 0) * 100 + y.span(2, true, 0), 1616);
        Feeder.read(y, "");
        is("told no more", y.span(1, false, 0) * 100 + y.span(1, true, 0), 1616);
    }

    private static void sixStones() {
        Doc.says("At most 6 STONES, numbered as told");
        right(Reading.plainStones(6), 6);
        wrong(2, Reading.plainStones(6) + "|stone g" + STONE_END);
        wrong(2, Reading.plainStones(6) + " |stone a" + STONE_END);
        wrong(2, Reading.plainStones(6) + "|stone");
        StringBuilder down = new StringBuilder();
        for (int i = 0; i < 6; i++) {
            down.append(Reading.stone("" + (char) ('f' - i), 9 - i, 0, 0, 0));
        }
        StoneTrust x = Feeder.village(down.toString());
        is("stones", x.about(0), 6);
        for (int i = 0; i < 6; i++) {
            is("weight of stone " + i, x.fit(0, 3 + i, 0), 16 * (9 - i));
        }
        is("no seventh", x.fit(0, 9, 0), StoneTrust.NONE);
    }

    private static void stoneBounds() {
        Doc.says("says 1 .. 9 pounds, in a TOWN, off 0 .. 4 grains, worn 0 .. 3 grains a YEAR");
        Reading.bounds("stone a says ", 1, 9, " in 0 off 0 worn 0;");
        Reading.bounds("stone a says 1 in ", 0, 1, " off 0 worn 0;");
        Reading.bounds("stone a says 1 in 0 off ", 0, 4, " worn 0;");
        Reading.bounds("stone a says 1 in 0 off 0 worn ", 0, 3, ";");
    }

    private static void masters() {
        Doc.says("master: of a STONE told ahead, each once");
        right(A + "master a from 1 to 2;" + B + "master b from 1 to 2;", 4);
        right(A + B + "master b from 1 to 2;master a from 1 to 2;", 4);
        wrong(5, "master |a from 1 to 2;" + A);
        wrong(5, A + "master |b from 1 to 2;" + B);
        wrong(3, A + "master a from 1 to 2;master |a from 1 to 2;");
        wrong(3, A + "master a from 0 to 0;master |a from 0 to 0;");
        wrong(3, A + "master a from 0 to 400;" + B + "master b from 1 to 1;master |a from 0 to 400;");
        StoneTrust x = Feeder.village(A + "master a from 1 to 2;");
        is("nothing fits", x.fits(0), 0);
        Feeder.read(x, A);
        is("told no more", x.fits(0), 1);
        is("it can be told anew", Feeder.read(x, A + "master a from 16 to 16;"), 2);
    }

    private static void masterBounds() {
        Doc.says("(0 .. 400, the second not below the first)");
        right(A + "master a from 0 to 0;", 2);
        right(A + "master a from 0 to 400;", 2);
        right(A + "master a from 400 to 400;", 2);
        wrong(4, A + "master a from |401 to 401;");
        wrong(4, A + "master a from 0 to |401;");
        wrong(4, A + "master a from 400 to |401;");
        wrong(4, A + "master a from 1 to |0;");
        wrong(4, A + "master a from 400 to |399;");
        wrong(4, A + "master a from |9999 to 0;");
    }

    private static void weighAndSaleLines() {
        Doc.says("At most 16 weigh, 10 sale lines");
        String weigh = "weigh a with b" + WEIGH_END;
        String sale = "sale a" + SALE_END;
        right(A + B + weigh.repeat(16), 18);
        wrong(2, A + B + weigh.repeat(16) + "|" + weigh);
        right(A + B + sale.repeat(10), 12);
        wrong(2, A + B + sale.repeat(10) + "|" + sale);
        right(A + B + weigh.repeat(16) + sale.repeat(10), 28);
        wrong(2, A + B + weigh.repeat(16) + sale.repeat(10) + " |weigh");
        wrong(2, A + B + weigh.repeat(16) + sale.repeat(10) + " |sale");
        StoneTrust x = Feeder.village(A + B + weigh.repeat(16) + sale.repeat(10));
        is("weighings of the text", x.about(1), 16);
        is("sales", x.about(3), 10);
        is("the last sale", x.owed(9, true, 0), 0);
        is("none behind it", x.owed(10, true, 0), -2000000000);
    }

    private static void stonesToldAhead() {
        Doc.says("of STONES told ahead");
        wrong(5, "weigh |a with b" + WEIGH_END + A + B);
        wrong(5, A + "weigh a with |b" + WEIGH_END + B);
        wrong(5, "sale |a" + SALE_END + A);
        wrong(5, A + "sale a |b" + SALE_END + B);
        right(A + "sale a" + SALE_END + B + "weigh a with b" + WEIGH_END, 4);
    }

    private static void weighAndSaleBounds() {
        Doc.says("(in a YEAR 0 .. 9, by a TRADER 0 .. 9; price 0 .. 99 for a grain)");
        Reading.bounds(A + B + "weigh a with b in ", 0, 9, " by 0 even;");
        Reading.bounds(A + B + "weigh a with b in 0 by ", 0, 9, " even;");
        Reading.bounds(A + "sale a in ", 0, 9, " by 0 price 0;");
        Reading.bounds(A + "sale a in 0 by ", 0, 9, " price 0;");
        Reading.bounds(A + "sale a in 0 by 0 price ", 0, 99, ";");
    }

    private static void noStoneTwice() {
        Doc.says("no STONE twice in one");
        wrong(3, A + B + "weigh a |a with b" + WEIGH_END);
        wrong(3, A + B + "weigh a with |a" + WEIGH_END);
        wrong(3, A + B + "weigh a with b |b" + WEIGH_END);
        wrong(3, A + B + "weigh a with b |a" + WEIGH_END);
        wrong(3, A + B + "weigh a b with |b" + WEIGH_END);
        wrong(3, A + B + "sale a |a" + SALE_END);
        wrong(3, A + B + "sale b a |b" + SALE_END);
        right(A + B + "weigh a with b" + WEIGH_END + "weigh b with a" + WEIGH_END + "sale a" + SALE_END + "sale a" + SALE_END,
            6);
        String six = Reading.plainStones(6);
        right(six + "weigh a b c with d e f" + WEIGH_END + "sale f e d c b a" + SALE_END, 8);
        wrong(3, six + "sale f e d c b a |f" + SALE_END);
        wrong(3, six + "weigh a b c d e f with |a" + WEIGH_END);
    }

    private static void firstFault() {
        Doc.says("the first by its place (bytes from 0; the end: the text's length)");
        wrong(4, "feel |10 ?");
        wrong(5, "master |a from 401 to ?");
        wrong(4, "arms |89 to 1x;;");
        wrong(2, "feel 1 |feel 10;");
        wrong(2, Reading.plainStones(6) + "|stone ? says 0;");
        wrong(3, A + "stone |a says 0;");
        wrong(2, "feel|");
        wrong(2, "feel  |");
        wrong(2, "feel 1\n\n|");
        wrong(2, "arms 90 to|");
        wrong(2, A + B + "weigh a with b in 0 by 0|");
        wrong(2, A + "sale|");
        wrong(2, A + "sale a |");
    }

    private static void leastFault() {
        Doc.says("at one place the least");
        // What is no TOKEN can't stand there either; nor is it a number that can be.
        wrong(1, "|?");
        wrong(1, "feel |99999;");
        wrong(1, "stone |?");
        wrong(1, "|weighweigh a");
        wrong(1, A + B + "weigh a with b |aaaaaaaaa in 0 by 0 even;");
        // A word that can't stand there is no NAME that no STONE has.
        wrong(2, "sale |with in 0 by 0 price 1;");
        wrong(2, "pound |a");
    }

    private static void faultNoToken() {
        Doc.says("1 no TOKEN");
        wrong(1, "feel 1;|*");
        wrong(1, "feel 1;|abcdefghi");
        wrong(1, "feel 1;|12345");
        wrong(1, "feel 1;|1a");
    }

    private static void faultOutOfPlace() {
        Doc.says("2 one that can't stand there (a 7th STONE, 17th weigh, 11th sale, arms or feel a second time: "
            + "at the line's first word)");
        wrong(2, Reading.plainStones(6) + "\n|stone g" + STONE_END);
        wrong(2, A + B + ("weigh a with b" + WEIGH_END).repeat(16) + "\n|weigh b with a" + WEIGH_END);
        wrong(2, A + B + ("sale a" + SALE_END).repeat(10) + "\n|sale b" + SALE_END);
        wrong(2, "arms 90 to 91;\n|arms 90 to 91;");
        wrong(2, "feel 1;\n|feel 1;");
        wrong(2, "|says");
        wrong(2, "|village");
        wrong(2, "|7");
        wrong(2, "feel |feel;");
        wrong(2, "feel 1 |1;");
        wrong(2, "arms 90 |96;");
        wrong(2, "arms 90 to |to;");
        wrong(2, "pound 0 |to 1 to 1;");
        wrong(2, "pound 0 from 1 |from 1;");
        wrong(2, "stone |;");
        wrong(2, "stone a |b" + STONE_END);
        wrong(2, "stone a says |in 0 off 0 worn 0;");
        wrong(2, "stone a says 1 in 0 |worn 0;");
        wrong(2, A + "master a |to 1;");
        wrong(2, A + B + "weigh |with b" + WEIGH_END);
        wrong(2, A + B + "weigh a with |in 0 by 0 even;");
        wrong(2, A + B + "weigh a |in 0 by 0 even;");
        wrong(2, A + B + "weigh a with b |with a" + WEIGH_END);
        wrong(2, A + B + "weigh a with b in 0 by 0 |;");
        wrong(2, A + B + "weigh a with b in 0 by 0 left |right;");
        wrong(2, A + "sale |in 0 by 0 price 1;");
        wrong(2, A + "sale a |by 0 price 1;");
        wrong(2, A + "sale a in 0 by 0 price |;");
    }

    private static void faultToldAlready() {
        Doc.says("3 a NAME told already, a pound or master told already (at the TOWN, the NAME), a STONE twice");
        wrong(3, A + "stone |a" + STONE_END);
        wrong(3, A + B + "stone |b");
        wrong(3, "pound 1 from 1 to 1;pound |1");
        wrong(3, "pound 1 from 1 to 1;pound |0001 from 1 to 1;");
        wrong(3, A + "master a from 1 to 1;master |a");
        wrong(3, A + B + "weigh b |b");
        wrong(3, A + B + "sale b |b");
    }

    private static void faultNumber() {
        Doc.says("4 a number that can't be");
        wrong(4, "arms |9999");
        wrong(4, "arms 90 to |9999");
        wrong(4, "feel |10");
        wrong(4, "pound |2");
        wrong(4, "pound 0 from |0");
        wrong(4, "stone a says |0");
        wrong(4, A + "master a from |401");
        wrong(4, A + B + "weigh a with b in |10");
        wrong(4, A + B + "weigh a with b in 9 by |10");
        wrong(4, A + "sale a in |10");
        wrong(4, A + "sale a in 9 by |10");
        wrong(4, A + "sale a in 9 by 9 price |100");
    }

    private static void faultNoStone() {
        Doc.says("5 a NAME that no STONE has (that was told ahead)");
        wrong(5, "master |a from 1 to 1;");
        wrong(5, "weigh |a");
        wrong(5, A + "weigh a |b");
        wrong(5, A + "weigh a with |b");
        wrong(5, A + "sale |aa");
        wrong(5, A + "sale a |z");
        wrong(5, A + "sale |y z" + SALE_END);
        wrong(5, A + "weigh |y z with a");
        wrong(5, A + "weigh a with |y a");
        // A FAULT'S text told the STONE b: it is not told in the text behind it.
        StoneTrust x = new StoneTrust();
        is("a fault", Feeder.read(x, B + "?"), StoneTrust.NONE);
        x.end(0);
        is("a name of that text", Feeder.read(x, "sale b" + SALE_END), StoneTrust.NONE);
        is("its fault", x.fault(0), 5);
        is("its place", x.fault(1), 5);
    }
}
