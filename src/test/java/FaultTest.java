/** The text: its TOKENS, its lines, and every FAULT with its place (promises 2 to 5); the mark | stands there. */
public final class FaultTest {
    private static final String A = "stone a says 1 in 0 off 0 worn 0;";
    private static final String B = "stone b says 1 in 0 off 0 worn 0;";

    public static void main(String[] args) {
        rightTexts();
        tokens();
        outOfPlace();
        tooMany();
        toldAlready();
        numbers();
        noStone();
        Check.end();
    }

    private static void right(String text, int lines) {
        Reading.right(text, lines);
    }

    private static void wrong(int fault, String marked) {
        Reading.wrong(fault, marked);
    }

    private static void rightTexts() {
        right("", 0);
        right(" \n ", 0);
        right("arms 90 to 96;", 1);
        right("arms 110 to 110;", 1);
        right("arms90 to96;feel9;", 2);
        right("feel 0\n;\n", 1);
        right("feel 0009;", 1);
        right("pound 1 from 40 to 40;pound 0 from 1 to 5;", 2);
        right(A + "master a from 0 to 400;", 2);
        right(A + "master a from 400 to 400;", 2);
        right("stone abcdefgh says 9 in 1 off 4 worn 3;", 1);
        right("stone azaz says 9 in 1 off 4 worn 3;", 1);
        right("stone armsx says 9 in 1 off 4 worn 3;", 1);
        right(A + B + "weigh a with b in 9 by 9 left;weigh b with a in 0 by 0 right;weigh a with b in 0 by 0 even;", 5);
        right(A + B + "sale a b in 9 by 9 price 99;sale b in 0 by 0 price 0;", 4);
        right("feel 1;" + A + "arms 100 to 100;" + B, 4);
    }

    private static void tokens() {
        wrong(1, "|A");
        wrong(1, "|\t");
        wrong(1, "|\rfeel 1;");
        wrong(1, "|" + (char) 225 + "feel 1;");
        wrong(1, "feel 1|:");
        wrong(1, "feel |1x;");
        wrong(1, "feel |12345;");
        wrong(1, "feel |00001;");
        wrong(1, "arms |90to 96;");
        wrong(1, "stone |abcdefghi says 1 in 0 off 0 worn 0;");
        wrong(1, "feel 1;|abcdefghi");
        wrong(1, "stone a says |-1 in 0 off 0 worn 0;");
    }

    private static void outOfPlace() {
        wrong(2, "|;");
        wrong(2, "|a");
        wrong(2, "|7");
        wrong(2, "|to");
        wrong(2, "feel|");
        wrong(2, "feel  |");
        wrong(2, "feel 1|");
        wrong(2, "feel 1 |feel");
        wrong(2, "feel 1;|;");
        wrong(2, "feel |;");
        wrong(2, "feel |a;");
        wrong(2, "feel 1 |2;");
        wrong(2, "arms 90 |96;");
        wrong(2, "arms 90 |from 96;");
        wrong(2, "pound |a");
        wrong(2, "pound 0 |to 1");
        wrong(2, "stone |says says 1 in 0 off 0 worn 0;");
        wrong(2, "stone |price says 1 in 0 off 0 worn 0;");
        wrong(2, "stone |3 says 1 in 0 off 0 worn 0;");
        wrong(2, "stone a |b says 1 in 0 off 0 worn 0;");
        wrong(2, "stone a says 1 |off 0 worn 0;");
        wrong(2, A + "master |left from 1 to 2;");
        wrong(2, A + B + "weigh |with b in 0 by 0 even;");
        wrong(2, A + B + "weigh a with |in 0 by 0 even;");
        wrong(2, A + B + "weigh a b |in 0 by 0 even;");
        wrong(2, A + B + "weigh a with b in 0 by 0 |;");
        wrong(2, A + B + "weigh a with b in 0 by 0 |a;");
        wrong(2, A + B + "weigh a with b in 0 by 0 even |even;");
        wrong(2, A + B + "weigh a with b |with");
        wrong(2, A + "sale |in 0 by 0 price 1;");
        wrong(2, A + "sale a in 0 by 0 |;");
        wrong(2, A + "sale a in 0 by 0 price 1|");
    }

    private static void tooMany() {
        wrong(2, "arms 90 to 90; |arms 90 to 90;");
        wrong(2, "feel 1;\n|feel 1;");
        StringBuilder six = new StringBuilder();
        for (char c = 'a'; c <= 'f'; c++) {
            six.append("stone ").append(c).append(" says 1 in 0 off 0 worn 0;");
        }
        right(six.toString(), 6);
        wrong(2, six + "|stone g says 1 in 0 off 0 worn 0;");
        wrong(2, six + "|stone");
        right(six + "sale a b c d e f in 0 by 0 price 0;", 7);
        wrong(3, six + "sale f e d c b a |f in 0 by 0 price 0;");
        wrong(5, six + "sale a b c d e f |g in 0 by 0 price 0;");
        wrong(3, six + "weigh a b c d e f with |a in 0 by 0 even;");
        wrong(2, six + "weigh a b c d e f |in 0 by 0 even;");
        String weighs = A + B + "weigh a with b in 0 by 0 even;".repeat(16);
        right(weighs, 18);
        wrong(2, weighs + "|weigh a with b in 0 by 0 even;");
        String sales = A + "sale a in 0 by 0 price 1;".repeat(10);
        right(sales, 11);
        wrong(2, sales + "|sale a in 0 by 0 price 1;");
    }

    private static void toldAlready() {
        wrong(3, A + "stone |a says 1 in 0 off 0 worn 0;");
        wrong(3, "pound 0 from 1 to 1;pound |0 from 1 to 1;");
        wrong(3, "pound 1 from 1 to 1;pound |0001 from 1 to 1;");
        wrong(3, A + "master a from 1 to 1;master |a from 1 to 1;");
        wrong(3, A + "master a from 0 to 0;master |a from 0 to 0;");
        wrong(3, A + B + "weigh a |a with b in 0 by 0 even;");
        wrong(3, A + B + "weigh a with |a in 0 by 0 even;");
        wrong(3, A + B + "weigh a with b |b in 0 by 0 even;");
        wrong(3, A + B + "weigh a b with |b in 0 by 0 even;");
        wrong(3, A + "sale a |a in 0 by 0 price 1;");
    }

    private static void numbers() {
        wrong(4, "arms |89 to 90;");
        wrong(4, "arms |111 to 111;");
        wrong(4, "arms 90 to |97;");
        wrong(4, "arms 95 to |94;");
        wrong(4, "arms 108 to |111;");
        wrong(4, "feel |10;");
        wrong(4, "feel |9999");
        wrong(4, "pound |2 from 1 to 1;");
        wrong(4, "pound 0 from |0 to 1;");
        wrong(4, "pound 0 from |41 to 41;");
        wrong(4, "pound 0 from 1 to |6;");
        wrong(4, "pound 0 from 2 to |1;");
        wrong(4, "pound 0 from 38 to |41;");
        wrong(4, "stone a says |0 in 0 off 0 worn 0;");
        wrong(4, "stone a says |10 in 0 off 0 worn 0;");
        wrong(4, "stone a says 1 in |2 off 0 worn 0;");
        wrong(4, "stone a says 1 in 0 off |5 worn 0;");
        wrong(4, "stone a says 1 in 0 off 0 worn |4;");
        wrong(4, A + "master a from |401 to 401;");
        wrong(4, A + "master a from 5 to |4;");
        wrong(4, A + "master a from 5 to |401;");
        wrong(4, A + B + "weigh a with b in |10 by 0 even;");
        wrong(4, A + B + "weigh a with b in 0 by |10 even;");
        wrong(4, A + "sale a in |10 by 0 price 1;");
        wrong(4, A + "sale a in 0 by |10 price 1;");
        wrong(4, A + "sale a in 0 by 0 price |100;");
    }

    private static void noStone() {
        wrong(5, "master |a from 1 to 1;");
        wrong(5, "master |a from 1 to 1;" + A);
        wrong(5, A + "weigh a with |b in 0 by 0 even;" + B);
        wrong(5, A + B + "weigh |c with b in 0 by 0 even;");
        wrong(5, A + "sale a |ab in 0 by 0 price 1;");
        wrong(5, "sale |a in 0 by 0 price 1;");
    }
}
