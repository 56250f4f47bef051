import java.lang.management.ManagementFactory;

/** The dearest runs of 512 calls keep to the room: what they make, counted in bytes, stays small. */
public final class RoomTest {
    private static final long MOST_BYTES = 12_000_000;

    public static void main(String[] args) {
        StringBuilder five = new StringBuilder("arms 90 to 95;pound 0 from 4 to 7;pound 1 from 4 to 7;");
        for (char c = 'a'; c <= 'e'; c++) {
            five.append("stone ").append(c).append(" says 1 in 0 off 2 worn 1;");
        }
        StringBuilder six = new StringBuilder("arms 99 to 100;pound 0 from 9 to 10;");
        for (char c = 'a'; c <= 'f'; c++) {
            six.append("stone ").append(c).append(" says 1 in 0 off ").append(c < 'e' ? 1 : 0).append(" worn 1;");
        }
        // 2 * 2 * 81 FITS are too many for CLEAR, so a weighing leaves fewer of them.
        six.append("weigh a with b in 0 by 1 even;");
        run("300,000 fits", five.toString());
        run("many trials", six.toString());
        Check.end();
    }

    private static void run(String what, String text) {
        com.sun.management.ThreadMXBean bean = (com.sun.management.ThreadMXBean) ManagementFactory.getThreadMXBean();
        long id = Thread.currentThread().getId();
        long start = System.nanoTime();
        long before = bean.getThreadAllocatedBytes(id);
        StoneTrust x = new StoneTrust();
        Feeder.feed(x, text);
        x.village();
        x.later(1);
        x.weighed(1, 2, 0, 0, 0);
        for (int i = 0; i < 460; i++) {
            int k = i / 20 % 2;
            ask(x, i % 20, k);
        }
        long made = bean.getThreadAllocatedBytes(id) - before;
        System.out.println(what + ": " + made + " bytes, " + (System.nanoTime() - start) / 1000000 + " ms");
        Check.same(what + " keeps to the room", made < MOST_BYTES, true);
    }

    private static void ask(StoneTrust x, int which, int k) {
        switch (which) {
            case 0 -> x.fits(k);
            case 1 -> x.fit(k, 0, k);
            case 2 -> x.span(3, true, k);
            case 3 -> x.isFalse(1, k);
            case 4 -> x.fewest(k);
            case 5 -> x.sets(k);
            case 6 -> x.set(0, k);
            case 7 -> x.next(0, k);
            case 8 -> x.parts(5, 0, k);
            case 9 -> x.clear(0, 0, k);
            case 10 -> x.arm(k);
            case 11 -> x.swap(1, 2, k);
            case 12 -> x.debt(0, true, k);
            case 13 -> x.joined(true, k);
            case 14 -> x.lieYear(0, k);
            case 15 -> x.goods(3, true, 1, true, k);
            case 16 -> x.twice(1, 2, 1, true, k);
            case 17 -> x.ratio(0, 1, true, k);
            case 18 -> x.sum(7, 3, true, k);
            default -> x.thumbs(k);
        }
    }
}
