import java.util.Random;

/** Texts of villages for the tests, right ones and spoilt ones. */
final class VillageMaker {
    private static final String[] NAMES = {"a", "bb", "iron", "stones", "lefty", "longname"};
    private static final String[] HOWS = {"left", "right", "even"};
    private static final String[] ODD = {"stone", "with", ";", "7", "in", "even", "a", "bb", "zz", "longernam", "12345",
        "12x", "x1", "A", "\t", "0", "99", "111", "arms 100 to 101;", "feel 1;", "pound 0 from 9 to 9;",
        "pound 2 from 9 to 9;", "master a from 0 to 400;", "sale a in 0 by 0 price 0;", "stone zz says 1 in 0 off 0 worn 0;"};

    private final Random dice;
    private final StringBuilder text = new StringBuilder();
    private final int stones;
    // A truth is thought up ahead, so that most weighings hang together.
    private int arm = 100;
    private int feel = 0;
    private final int[] pound = {16, 16};
    private final int[] weight = new int[6];
    private final int[] worn = new int[6];
    private final boolean vague;
    private final boolean alike;

    private VillageMaker(Random dice) {
        this.dice = dice;
        stones = dice.nextInt(12) == 0 ? dice.nextInt(2) : 2 + dice.nextInt(5);
        vague = dice.nextInt(4) == 0;
        alike = dice.nextBoolean();
    }

    static String make(Random dice) {
        VillageMaker maker = new VillageMaker(dice);
        maker.tellScale();
        maker.tellStones();
        int weighs = dice.nextInt(15) == 0 ? 16 : dice.nextInt(4);
        for (int i = 0; i < weighs && maker.stones > 1; i++) {
            maker.tellWeigh();
        }
        int sales = dice.nextInt(6) == 0 ? dice.nextInt(11) : dice.nextInt(4);
        for (int i = 0; i < sales && maker.stones > 0; i++) {
            maker.tellSale();
        }
        StringBuilder text = maker.text;
        return text.length() > 1300 ? text.substring(0, 1300) : text.toString();
    }

    private int roll(int sides) {
        return dice.nextInt(sides);
    }

    private void tellScale() {
        if (roll(3) > 0) {
            int low = roll(3) > 0 ? 97 + roll(6) : 90 + roll(21);
            int high = Math.min(110, low + roll(vague ? 7 : 2));
            arm = low + roll(high - low + 1);
            text.append("arms ").append(low).append(" to ").append(high).append(";");
        }
        if (roll(2) > 0) {
            feel = roll(roll(4) == 0 ? 10 : 3);
            text.append("feel ").append(feel).append(" ;");
        }
        for (int town = 0; town < 2; town++) {
            if (roll(3) > 0) {
                int low = 1 + roll(roll(2) > 0 ? 6 : 40);
                int high = Math.min(40, low + roll(vague ? 5 : 2));
                pound[town] = low + roll(high - low + 1);
                text.append("pound ").append(town).append(" from ").append(low).append(" to ").append(high).append("\n;");
            }
        }
    }

    private void tellStones() {
        for (int s = 0; s < stones; s++) {
            int off = roll(vague || stones < 4 ? 5 : 2);
            int says = 1 + roll(alike ? 2 : 9);
            int town = alike && roll(4) > 0 ? 0 : roll(2);
            worn[s] = roll(4);
            weight[s] = Math.max(1, says * pound[town] - off + roll(2 * off + 1));
            text.append("stone ").append(NAMES[s]).append(" says ").append(says).append(" in ").append(town)
                .append(" off ").append(off).append(" worn ").append(worn[s]).append(";");
            if (roll(8) == 0) {
                int low = roll(6) == 0 ? roll(60) : Math.max(0, weight[s] - roll(3));
                text.append("master ").append(NAMES[s]).append(" from ").append(low).append(" to ")
                    .append(Math.max(low, weight[s] + roll(3))).append(";");
            }
        }
    }

    private void tellWeigh() {
        int left = 1 + roll((1 << stones) - 1);
        int right = 1 + roll((1 << stones) - 1) & ~left;
        int year = roll(roll(2) > 0 ? 1 : 10);
        if (right != 0) {
            int how = roll(8) == 0 ? roll(3) : shows(left, right, year);
            text.append("weigh").append(names(left)).append(" with").append(names(right)).append(" in ").append(year)
                .append(" by ").append(roll(4)).append(" ").append(HOWS[how]).append(";");
        }
    }

    private void tellSale() {
        text.append("sale").append(names(1 + roll((1 << stones) - 1))).append(" in ").append(roll(10))
            .append(" by ").append(roll(4)).append(" price ").append(roll(100)).append(";\n ");
    }

    private int shows(int left, int right, int year) {
        int d = 0;
        for (int s = 0; s < stones; s++) {
            int now = Math.max(0, weight[s] - worn[s] * year);
            d += (left >> s & 1) * 100 * now - (right >> s & 1) * arm * now;
        }
        return d > 100 * feel ? 0 : d < -100 * feel ? 1 : 2;
    }

    private static String names(int bits) {
        StringBuilder all = new StringBuilder();
        for (int s = 0; s < 6; s++) {
            if ((bits >> s & 1) != 0) {
                all.append(" ").append(NAMES[s]);
            }
        }
        return all.toString();
    }

    static String spoil(String text, Random dice) {
        StringBuilder all = new StringBuilder(text);
        int at = dice.nextInt(text.length() + 1);
        switch (dice.nextInt(5)) {
            case 0 -> all.setLength(at);
            case 1 -> all.insert(at, ODD[dice.nextInt(ODD.length)]);
            case 2 -> all.insert(at, " " + ODD[dice.nextInt(ODD.length)] + " ");
            case 3 -> all.delete(at, Math.min(text.length(), at + 1 + dice.nextInt(8)));
            default -> {
                if (at < text.length()) {
                    all.setCharAt(at, (char) dice.nextInt(256));
                }
            }
        }
        return all.length() > 1300 ? all.substring(0, 1300) : all.toString();
    }
}
