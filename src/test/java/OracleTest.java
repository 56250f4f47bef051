import java.util.Random;

/** Runs of calls, the same each time, on a StoneTrust and on the slow Oracle: all answers are alike. */
public final class OracleTest {
    private final Random dice;
    private final StoneTrust x = new StoneTrust();
    private final Oracle o = new Oracle();
    private final int run;
    private String latest = "";

    private OracleTest(int run) {
        this.run = run;
        this.dice = new Random(run);
    }

    public static void main(String[] args) {
        int first = args.length > 0 ? Integer.parseInt(args[0]) : 0;
        int runs = args.length > 1 ? Integer.parseInt(args[1]) : 600;
        for (int run = first; run < first + runs && Check.wrong() < 20; run++) {
            new OracleTest(run).go();
        }
        Check.end();
    }

    private int roll(int sides) {
        return dice.nextInt(sides);
    }

    private boolean oneIn(int many) {
        return dice.nextInt(many) == 0;
    }

    private void go() {
        int villages = 1 + roll(3);
        for (int v = 0; v < villages; v++) {
            readText();
            int calls = 10 + roll(60);
            for (int i = 0; i < calls; i++) {
                if (oneIn(5)) {
                    change();
                } else {
                    ask(roll(20), time());
                }
            }
        }
    }

    private void same(String call, Object got, Object due) {
        Check.same("run " + run + ": " + call + " of " + latest, got, due);
    }

    private void readText() {
        String text = VillageMaker.make(dice);
        if (o.about(0) > 0 && oneIn(3)) {
            text = VillageMaker.spoil(text, dice);
        }
        latest = text;
        for (int i = 0; i < text.length(); i += 20) {
            int[] n = new int[5];
            for (int j = 0; j < 5; j++) {
                n[j] = Feeder.four(text, i + 4 * j);
            }
            same("feed", x.feed(n[0], n[1], n[2], n[3], n[4]), o.feed(n));
        }
        same("end", x.end(text.length()), o.end(text.length()));
        same("village()", x.village(), o.village());
        for (int what = -1; what <= 2; what++) {
            same("fault(" + what + ")", x.fault(what), o.fault(what));
        }
        same("about(5)", x.about(5), o.about(5));
        same("end(0)", x.end(0), o.end(0));
    }

    private int time() {
        return oneIn(8) ? new int[] {Integer.MIN_VALUE, -1, Integer.MAX_VALUE}[roll(3)] : roll(o.about(4) + 2);
    }

    private int stone() {
        return oneIn(12) ? roll(9) - 2 : roll(Math.max(1, o.about(0)));
    }

    private int pile() {
        return oneIn(12) ? roll(130) - 2 : 1 + roll(Math.max(1, (1 << o.about(0)) - 1));
    }

    private int other(int pile) {
        int rest = (1 << o.about(0)) - 1 & ~pile;
        int some = pile() & rest;
        return oneIn(6) ? pile() : some == 0 ? rest : some;
    }

    private int year() {
        return oneIn(12) ? roll(13) - 1 : oneIn(2) ? 0 : roll(10);
    }

    private void change() {
        switch (roll(6)) {
            case 0, 1, 2 -> weigh();
            case 3 -> {
                int w = roll(Math.max(1, o.about(2)) + 1) - (oneIn(10) ? 1 : 0);
                same("untell(" + w + ")", x.untell(w), o.untell(w));
            }
            case 4 -> {
                int by = oneIn(10) ? roll(1200) - 100 : roll(3);
                same("later(" + by + ")", x.later(by), o.later(by));
            }
            default -> {
                int t = oneIn(8) ? roll(13) - 1 : roll(4);
                boolean is = dice.nextBoolean();
                same("doubt(" + t + ", " + is + ")", x.doubt(t, is), o.doubt(t, is));
            }
        }
        for (int what = -1; what <= 7; what++) {
            same("about(" + what + ")", x.about(what), o.about(what));
        }
    }

    private void weigh() {
        int left = pile();
        int right = other(left);
        int year = year();
        int trader = oneIn(10) ? roll(12) - 1 : roll(4);
        int how = oneIn(15) ? roll(6) - 2 : roll(3);
        int[] fit = o.someFit(dice.nextInt());
        boolean can = left > 0 && right > 0 && left < 1 << o.about(0) && right < 1 << o.about(0);
        if (fit != null && can && !oneIn(5)) {
            how = o.showsBy(fit, left, right, year);
        }
        String call = "weighed(" + left + ", " + right + ", " + year + ", " + trader + ", " + how + ")";
        same(call, x.weighed(left, right, year, trader, how), o.weighed(left, right, year, trader, how));
    }

    private static int code(int left, int right) {
        int all = 0;
        for (int s = 5; s >= 0; s--) {
            all = all * 3 + (left >> s & 1) + 2 * (right >> s & 1);
        }
        return all;
    }

    private void ask(int which, int k) {
        boolean high = dice.nextBoolean();
        int s = stone();
        int p = pile();
        int q = other(p);
        int y = year();
        int what = roll(oneIn(10) ? 12 : 3 + o.about(0)) - (oneIn(10) ? 1 : 0);
        int i = which == 12 || oneIn(8) ? roll(4) - (oneIn(6) ? 1 : 0) : roll(Math.max(1, o.fits(k)) + 1);
        int bit = oneIn(10) ? roll(5) - 1 : roll(2);
        int code = oneIn(8) ? roll(740) - 5 : code(p, q);
        int how = oneIn(10) ? roll(6) - 2 : roll(3);
        String at = " high " + high + " k " + k;
        switch (which) {
            case 0 -> same("fits" + at, x.fits(k), o.fits(k));
            case 1 -> same("fit " + i + " " + what + at, x.fit(i, what, k), o.fit(i, what, k));
            case 2 -> same("span " + what + at, x.span(what, high, k), o.span(what, high, k));
            case 3 -> same("isFalse " + s + at, x.isFalse(s, k), o.isFalse(s, k));
            case 4 -> same("fewest" + at, x.fewest(k), o.fewest(k));
            case 5 -> same("sets" + at, x.sets(k), o.sets(k));
            case 6 -> same("set " + bit + at, x.set(bit, k), o.set(bit, k));
            case 7 -> same("next " + bit + at, x.next(bit, k), o.next(bit, k));
            case 8 -> same("parts " + code + " " + how + at, x.parts(code, how, k), o.parts(code, how, k));
            case 9 -> same("clear " + s + " " + bit + at, x.clear(s, bit, k), o.clear(s, bit, k));
            case 10 -> same("arm" + at, x.arm(k), o.arm(k));
            case 11 -> same("swap " + p + " " + q + at, x.swap(p, q, k), o.swap(p, q, k));
            case 12 -> same("owed " + i + at, x.owed(i, high, k), o.owed(i, high, k));
            case 13 -> same("debt " + s + at, x.debt(s, high, k), o.debt(s, high, k));
            case 14 -> same("joined" + at, x.joined(high, k), o.joined(high, k));
            case 15 -> same("lieYear " + s + at, x.lieYear(s, k), o.lieYear(s, k));
            case 16 -> {
                boolean left = dice.nextBoolean();
                same("goods " + p + left + y + at, x.goods(p, left, y, high, k), o.goods(p, left, y, high, k));
            }
            case 17 -> same("twice " + p + " " + q + " " + y + at, x.twice(p, q, y, high, k), o.twice(p, q, y, high, k));
            case 18 -> {
                int t = stone();
                same("ratio " + s + " " + t + at, x.ratio(s, t, high, k), o.ratio(s, t, high, k));
                same("sum " + p + " " + y + at, x.sum(p, y, high, k), o.sum(p, y, high, k));
            }
            default -> same("thumbs" + at, x.thumbs(k), o.thumbs(k));
        }
    }
}
