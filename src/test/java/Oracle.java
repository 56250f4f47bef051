import java.util.ArrayList;
import java.util.HashMap;
import java.util.HashSet;
import java.util.List;
import java.util.Map;
import java.util.Set;
import java.util.TreeSet;
import java.util.function.ToIntFunction;
import java.util.regex.Matcher;
import java.util.regex.Pattern;

/** The document once more, as slow and as plain as can be: every FIT is tried, nothing is left out ahead. */
final class Oracle {
    private static final int NONE = -1;
    private static final int SPENT = -2;
    private static final int NO_DEBT = -2000000000;
    private static final Set<String> OWN = Set.of("arms", "to", "feel", "pound", "from", "stone", "says", "in", "off",
        "worn", "master", "weigh", "with", "by", "left", "right", "even", "sale", "price");
    // * is STONES, @ a new NAME, $ the NAME of a STONE, # a number (its name behind), % how a weighing was.
    private static final Map<String, String> LINES = Map.of(
        "arms", "#arm to #armTop ;",
        "feel", "#feel ;",
        "pound", "#pound from #low to #high ;",
        "stone", "@ says #says in #town off #off worn #worn ;",
        "master", "$ from #least to #most ;",
        "weigh", "* with * in #year by #trader % ;",
        "sale", "* in #year by #trader price #price ;");
    private static final Pattern TOKEN = Pattern.compile("[a-z]+|[0-9]+|;");

    private static final class Stone {
        String name;
        int says;
        int town;
        int off;
        int worn;
        int[] master;
    }

    private record Weighing(int left, int right, int year, int trader, int how, int told, int[] untold) {
    }

    private record Sale(int stones, int year, int trader, int price) {
    }

    private static final class Text {
        int[] arms;
        Integer feel;
        int[][] pounds = new int[2][];
        List<Stone> stones = new ArrayList<>();
        List<Weighing> weighings = new ArrayList<>();
        List<Sale> sales = new ArrayList<>();
    }

    private static final class Fault extends Exception {
        private static final long serialVersionUID = 1L;
        final int what;
        final int place;

        Fault(int what, int place) {
            this.what = what;
            this.place = place;
        }
    }

    private final StringBuilder tape = new StringBuilder();
    private Text text = new Text();
    private List<Weighing> others = new ArrayList<>();
    private int time = 0;
    private final Set<Integer> doubted = new TreeSet<>();
    private int fault = 0;
    private int place = NONE;
    private final Map<Integer, List<int[]>> kept = new HashMap<>();

    // ---- the text

    int feed(int... numbers) {
        if (tape.length() > 1280) {
            return NONE;
        }
        for (int n : numbers) {
            tape.append((char) (n >>> 24)).append((char) (n >>> 16 & 255)).append((char) (n >>> 8 & 255))
                .append((char) (n & 255));
        }
        return tape.length();
    }

    int end(int n) {
        if (n < 0 || n > tape.length()) {
            return NONE;
        }
        tape.setLength(n);
        return n;
    }

    int village() {
        try {
            Text made = new Text();
            int lines = readAll(made);
            text = made;
            tape.setLength(0);
            others = new ArrayList<>();
            doubted.clear();
            kept.clear();
            fault = 0;
            place = NONE;
            return lines;
        } catch (Fault f) {
            fault = f.what;
            place = f.place;
            return NONE;
        }
    }

    int fault(int what) {
        return what == 0 ? fault : what == 1 ? place : NONE;
    }

    private int at;

    private int start() {
        int i = at;
        while (i < tape.length() && (tape.charAt(i) == ' ' || tape.charAt(i) == '\n')) {
            i++;
        }
        return i;
    }

    /** The TOKEN that comes next, "" at the end. */
    private String peek() throws Fault {
        int from = start();
        if (from == tape.length()) {
            return "";
        }
        Matcher m = TOKEN.matcher(tape).region(from, tape.length());
        if (!m.lookingAt()) {
            throw new Fault(1, from);
        }
        String token = m.group();
        boolean isNumber = Character.isDigit(token.charAt(0));
        boolean letterBehind = m.end() < tape.length() && tape.substring(m.end(), m.end() + 1).matches("[a-z]");
        if (isNumber && (token.length() > 4 || letterBehind) || !isNumber && token.length() > 8) {
            throw new Fault(1, from);
        }
        return token;
    }

    private String take() throws Fault {
        String token = peek();
        at = start() + token.length();
        return token;
    }

    private int readAll(Text made) throws Fault {
        at = 0;
        int lines = 0;
        while (!peek().isEmpty()) {
            int from = start();
            String first = take();
            boolean tooMany = first.equals("stone") && made.stones.size() == 6
                || first.equals("weigh") && made.weighings.size() == 16
                || first.equals("sale") && made.sales.size() == 10
                || first.equals("arms") && made.arms != null || first.equals("feel") && made.feel != null;
            if (!LINES.containsKey(first) || tooMany) {
                throw new Fault(2, from);
            }
            readLine(first, made);
            lines++;
        }
        return lines;
    }

    private void readLine(String first, Text made) throws Fault {
        Map<String, Integer> told = new HashMap<>();
        List<Integer> piles = new ArrayList<>();
        String name = null;
        for (String slot : LINES.get(first).split(" ")) {
            int from = start();
            String token = peek();
            boolean isName = token.matches("[a-z]+") && !OWN.contains(token);
            switch (slot.charAt(0)) {
                case '@', '$' -> {
                    if (!isName) {
                        throw new Fault(2, from);
                    }
                    int s = stone(made, token);
                    if (slot.equals("@") && s >= 0 || slot.equals("$") && s >= 0 && made.stones.get(s).master != null) {
                        throw new Fault(3, from);
                    }
                    if (slot.equals("$") && s < 0) {
                        throw new Fault(5, from);
                    }
                    name = take();
                }
                case '*' -> piles.add(readPile(made, piles));
                case '#' -> {
                    if (!token.matches("[0-9]+")) {
                        throw new Fault(2, from);
                    }
                    int n = Integer.parseInt(token);
                    if (slot.equals("#pound") && n < 2 && made.pounds[n] != null) {
                        throw new Fault(3, from);
                    }
                    if (!canBe(slot.substring(1), n, told)) {
                        throw new Fault(4, from);
                    }
                    told.put(slot.substring(1), n);
                    take();
                }
                case '%' -> {
                    if (!List.of("left", "right", "even").contains(token)) {
                        throw new Fault(2, from);
                    }
                    told.put("how", List.of("left", "right", "even").indexOf(token));
                    take();
                }
                default -> {
                    if (!token.equals(slot)) {
                        throw new Fault(2, from);
                    }
                    take();
                }
            }
        }
        keep(first, made, told, piles, name);
    }

    private int readPile(Text made, List<Integer> ahead) throws Fault {
        int pile = 0;
        int all = ahead.isEmpty() ? 0 : ahead.get(0);
        while (true) {
            int from = start();
            String token = peek();
            boolean isName = token.matches("[a-z]+") && !OWN.contains(token);
            if (!isName && pile != 0) {
                return pile;
            }
            if (!isName) {
                throw new Fault(2, from);
            }
            int s = stone(made, token);
            if (s < 0) {
                throw new Fault(5, from);
            }
            if (((all | pile) & 1 << s) != 0) {
                throw new Fault(3, from);
            }
            pile |= 1 << s;
            take();
        }
    }

    private static int stone(Text made, String name) {
        for (int s = 0; s < made.stones.size(); s++) {
            if (made.stones.get(s).name.equals(name)) {
                return s;
            }
        }
        return NONE;
    }

    private static boolean canBe(String what, int n, Map<String, Integer> told) {
        return switch (what) {
            case "arm" -> n >= 90 && n <= 110;
            case "armTop" -> n >= told.get("arm") && n <= 110 && n - told.get("arm") <= 6;
            case "feel", "year", "trader" -> n <= 9;
            case "pound", "town" -> n <= 1;
            case "low" -> n >= 1 && n <= 40;
            case "high" -> n >= told.get("low") && n <= 40 && n - told.get("low") <= 4;
            case "says" -> n >= 1 && n <= 9;
            case "off" -> n <= 4;
            case "worn" -> n <= 3;
            case "least" -> n <= 400;
            case "most" -> n >= told.get("least") && n <= 400;
            case "price" -> n <= 99;
            default -> throw new IllegalStateException(what);
        };
    }

    private static void keep(String first, Text made, Map<String, Integer> told, List<Integer> piles, String name) {
        switch (first) {
            case "arms" -> made.arms = new int[] {told.get("arm"), told.get("armTop")};
            case "feel" -> made.feel = told.get("feel");
            case "pound" -> made.pounds[told.get("pound")] = new int[] {told.get("low"), told.get("high")};
            case "stone" -> {
                Stone stone = new Stone();
                stone.name = name;
                stone.says = told.get("says");
                stone.town = told.get("town");
                stone.off = told.get("off");
                stone.worn = told.get("worn");
                made.stones.add(stone);
            }
            case "master" -> made.stones.get(stone(made, name)).master = new int[] {told.get("least"), told.get("most")};
            case "weigh" -> made.weighings.add(new Weighing(piles.get(0), piles.get(1), told.get("year"),
                told.get("trader"), told.get("how"), Integer.MIN_VALUE, new int[] {NONE}));
            default -> made.sales.add(new Sale(piles.get(0), told.get("year"), told.get("trader"), told.get("price")));
        }
    }

    // ---- weighings

    private int count() {
        return text.stones.size();
    }

    private boolean pile(int stones) {
        return stones > 0 && stones < Math.pow(2, count());
    }

    private boolean canWeigh(int left, int right) {
        return pile(left) && pile(right) && (left & right) == 0;
    }

    int weighed(int left, int right, int year, int trader, int how) {
        if (!canWeigh(left, right) || year < 0 || year > 9 || trader < 0 || trader > 9 || how < 0 || how > 2
            || others.size() == 30) {
            return NONE;
        }
        others.add(new Weighing(left, right, year, trader, how, time, new int[] {NONE}));
        kept.clear();
        return others.size() - 1;
    }

    boolean untell(int weighing) {
        if (weighing < 0 || weighing >= others.size() || others.get(weighing).untold[0] != NONE) {
            return false;
        }
        others.get(weighing).untold[0] = time;
        kept.clear();
        return true;
    }

    int later(int by) {
        if (by < 0 || by > 1000 || time + by > 100000) {
            return NONE;
        }
        time += by;
        return time;
    }

    boolean doubt(int trader, boolean is) {
        if (trader < 0 || trader > 9 || doubted.contains(trader) == is) {
            return false;
        }
        if (is) {
            doubted.add(trader);
        } else {
            doubted.remove(trader);
        }
        kept.clear();
        return true;
    }

    // ---- FITS: [ARM, POUND 0, POUND 1, WEIGHTS ..]

    private int[] arms() {
        return text.arms == null ? new int[] {100, 100} : text.arms;
    }

    private int[] pounds(int town) {
        return text.pounds[town] == null ? new int[] {16, 16} : text.pounds[town];
    }

    private int feel() {
        return text.feel == null ? 0 : text.feel;
    }

    private long ways() {
        long all = arms()[1] - arms()[0] + 1;
        all *= pounds(0)[1] - pounds(0)[0] + 1;
        all *= pounds(1)[1] - pounds(1)[0] + 1;
        for (Stone s : text.stones) {
            all *= 2 * s.off + 1;
        }
        return all;
    }

    private List<Weighing> counting(int k, Set<Integer> doubts) {
        List<Weighing> all = new ArrayList<>(text.weighings);
        for (Weighing w : others) {
            if (w.told <= k && !(w.untold[0] != NONE && w.untold[0] <= k)) {
                all.add(w);
            }
        }
        all.removeIf(w -> doubts.contains(w.trader));
        return all;
    }

    private int said(int[] fit, int s) {
        return text.stones.get(s).says * fit[1 + text.stones.get(s).town];
    }

    private int have(int[] fit, int stones, int year) {
        int all = 0;
        for (int s = 0; s < count(); s++) {
            if ((stones & 1 << s) != 0) {
                int now = fit[3 + s] - text.stones.get(s).worn * year;
                all += now < 0 ? 0 : now;
            }
        }
        return all;
    }

    private int shows(int[] fit, int left, int right, int year) {
        return how(100 * have(fit, left, year) - fit[0] * have(fit, right, year));
    }

    private int how(int d) {
        return d > 100 * feel() ? 0 : d < -100 * feel() ? 1 : 2;
    }

    private List<int[]> search(List<Weighing> counting) {
        List<int[]> all = new ArrayList<>();
        for (int a = arms()[0]; a <= arms()[1]; a++) {
            for (int p = pounds(0)[0]; p <= pounds(0)[1]; p++) {
                for (int q = pounds(1)[0]; q <= pounds(1)[1]; q++) {
                    int[] fit = new int[3 + count()];
                    fit[0] = a;
                    fit[1] = p;
                    fit[2] = q;
                    fill(fit, 0, counting, all);
                }
            }
        }
        return all;
    }

    private void fill(int[] fit, int s, List<Weighing> counting, List<int[]> all) {
        if (s == count()) {
            for (Weighing w : counting) {
                if (shows(fit, w.left, w.right, w.year) != w.how) {
                    return;
                }
            }
            all.add(fit.clone());
            return;
        }
        Stone stone = text.stones.get(s);
        for (int w = said(fit, s) - stone.off; w <= said(fit, s) + stone.off; w++) {
            boolean fits = stone.master == null || w >= stone.master[0] && w <= stone.master[1];
            if (w >= 1 && fits) {
                fit[3 + s] = w;
                fill(fit, s + 1, counting, all);
            }
        }
    }

    /** null if SPENT. */
    private List<int[]> known(int k) {
        if (ways() > 300000) {
            return null;
        }
        if (!kept.containsKey(k)) {
            kept.put(k, search(counting(k, doubted)));
        }
        return kept.get(k);
    }

    private int least(int k, boolean high, int without, int spent, ToIntFunction<int[]> f) {
        List<int[]> all = known(k);
        if (all == null) {
            return spent;
        }
        return high ? all.stream().mapToInt(f).max().orElse(without) : all.stream().mapToInt(f).min().orElse(without);
    }

    int fits(int k) {
        return known(k) == null ? SPENT : known(k).size();
    }

    int fit(int i, int what, int k) {
        List<int[]> all = known(k);
        if (all == null || i < 0 || i >= all.size() || what < 0 || what >= 3 + count()) {
            return NONE;
        }
        return all.get(i)[what];
    }

    int span(int what, boolean high, int k) {
        return what < 0 || what >= 3 + count() ? NONE : least(k, high, NONE, SPENT, f -> f[what]);
    }

    private boolean isStone(int s) {
        return s >= 0 && s < count();
    }

    int isFalse(int stone, int k) {
        // FALSE is it that is no liar in no FIT.
        return isStone(stone) ? least(k, false, NONE, SPENT, f -> f[3 + stone] != said(f, stone) ? 1 : 0) : NONE;
    }

    private int liars(int[] fit) {
        int all = 0;
        for (int s = 0; s < count(); s++) {
            all += fit[3 + s] != said(fit, s) ? 1 << s : 0;
        }
        return all;
    }

    int fewest(int k) {
        return least(k, false, NONE, SPENT, f -> Integer.bitCount(liars(f)));
    }

    private List<Integer> setList(int k) {
        TreeSet<Integer> all = new TreeSet<>();
        int few = fewest(k);
        for (int[] fit : known(k)) {
            if (Integer.bitCount(liars(fit)) == few) {
                all.add(liars(fit));
            }
        }
        return new ArrayList<>(all);
    }

    int sets(int k) {
        return known(k) == null ? SPENT : setList(k).size();
    }

    int set(int i, int k) {
        return known(k) == null || i < 0 || i >= setList(k).size() ? NONE : setList(k).get(i);
    }

    // ---- TRIALS

    private static int side(int code, int side) {
        int stones = 0;
        for (int s = 0; s < 6; s++, code /= 3) {
            stones |= code % 3 == side ? 1 << s : 0;
        }
        return stones;
    }

    private boolean isTrial(int code) {
        return code >= 0 && code < Math.pow(3, count()) && side(code, 1) != 0 && side(code, 2) != 0;
    }

    private List<List<int[]>> part(List<int[]> fits, int code) {
        List<List<int[]>> all = List.of(new ArrayList<>(), new ArrayList<>(), new ArrayList<>());
        for (int[] fit : fits) {
            all.get(shows(fit, side(code, 1), side(code, 2), 0)).add(fit);
        }
        return all;
    }

    int next(int what, int k) {
        if (what < 0 || what > 1 || count() < 2) {
            return NONE;
        }
        List<int[]> fits = known(k);
        if (fits == null || fits.size() > 2000) {
            return SPENT;
        }
        if (fits.isEmpty()) {
            return NONE;
        }
        long best = Long.MAX_VALUE;
        for (int code = 0; code < 729; code++) {
            if (isTrial(code)) {
                int greatest = part(fits, code).stream().mapToInt(List::size).max().getAsInt();
                int stones = Integer.bitCount(side(code, 1)) + Integer.bitCount(side(code, 2));
                best = Math.min(best, (greatest * 10L + stones) * 1000 + code);
            }
        }
        return (int) (what == 0 ? best % 1000 : best / 10000);
    }

    int parts(int code, int how, int k) {
        if (!isTrial(code) || how < 0 || how > 2) {
            return NONE;
        }
        return known(k) == null ? SPENT : part(known(k), code).get(how).size();
    }

    private boolean isClear(List<int[]> fits, int stone) {
        Set<Boolean> all = new HashSet<>();
        for (int[] fit : fits) {
            all.add(fit[3 + stone] == said(fit, stone));
        }
        return all.size() < 2;
    }

    /** The first code by which as many TRIALS do, NONE if there is none. */
    private int firstOf(List<int[]> fits, int stone, int many) {
        for (int code = 0; code < 729; code++) {
            boolean small = Integer.bitCount(side(code, 1)) <= 2 && Integer.bitCount(side(code, 2)) <= 2;
            if (isTrial(code) && small) {
                boolean does = true;
                for (List<int[]> some : part(fits, code)) {
                    does = does && (isClear(some, stone) || many > 1 && firstOf(some, stone, many - 1) >= 0);
                }
                if (does) {
                    return code;
                }
            }
        }
        return NONE;
    }

    int clear(int stone, int what, int k) {
        if (!isStone(stone) || what < 0 || what > 1) {
            return NONE;
        }
        List<int[]> fits = known(k);
        if (fits == null || fits.size() > 150) {
            return SPENT;
        }
        if (fits.isEmpty()) {
            return NONE;
        }
        if (isClear(fits, stone)) {
            return what == 0 ? 0 : NONE;
        }
        for (int many = 1; many <= 2; many++) {
            int code = firstOf(fits, stone, many);
            if (code >= 0) {
                return what == 0 ? many : code;
            }
        }
        return NONE;
    }

    int arm(int k) {
        int low = least(k, false, NONE, SPENT, f -> f[0]);
        return low < 0 ? low : low == least(k, true, NONE, SPENT, f -> f[0]) ? 1 : 0;
    }

    int swap(int left, int right, int k) {
        if (!canWeigh(left, right)) {
            return NONE;
        }
        if (known(k) == null || known(k).isEmpty()) {
            return known(k) == null ? SPENT : NONE;
        }
        int all = 0;
        for (int[] fit : known(k)) {
            all |= 1 << (3 * shows(fit, left, right, 0) + shows(fit, right, left, 0));
        }
        return all;
    }

    // ---- debts

    private int owed(int[] fit, Sale sale) {
        int saidAll = 0;
        for (int s = 0; s < count(); s++) {
            saidAll += (sale.stones & 1 << s) != 0 ? said(fit, s) : 0;
        }
        return sale.price * (saidAll - have(fit, sale.stones, sale.year));
    }

    int owed(int sale, boolean high, int k) {
        if (sale < 0 || sale >= text.sales.size()) {
            return NO_DEBT;
        }
        return least(k, high, NO_DEBT, NO_DEBT, f -> owed(f, text.sales.get(sale)));
    }

    int debt(int trader, boolean high, int k) {
        if (trader < 0 || trader > 9) {
            return NO_DEBT;
        }
        return least(k, high, NO_DEBT, NO_DEBT,
            f -> text.sales.stream().filter(s -> s.trader == trader).mapToInt(s -> owed(f, s)).sum());
    }

    int joined(boolean high, int k) {
        return least(k, high, NONE, SPENT, f -> f[1] * 1000 / f[2]);
    }

    int lieYear(int stone, int k) {
        if (!isStone(stone) || known(k) == null || known(k).isEmpty()) {
            return NONE;
        }
        for (int year = 0; year <= 9; year++) {
            int then = year;
            if (known(k).stream().noneMatch(f -> have(f, 1 << stone, then) == said(f, stone))) {
                return year;
            }
        }
        return NONE;
    }

    // ---- GOODS: every G that could be is laid on the scale

    private int tryGoods(int onRight, int onLeft, int year, boolean high, int k) {
        if (known(k) == null) {
            return SPENT;
        }
        TreeSet<Integer> all = new TreeSet<>();
        for (int[] fit : known(k)) {
            int weight = Math.max(have(fit, onRight, year), have(fit, onLeft, year));
            int from = Math.max(0, weight * 80 / 100 - 20);
            for (int g = from; g <= weight * 120 / 100 + 20; g++) {
                boolean even = onRight == 0 || how(100 * g - fit[0] * have(fit, onRight, year)) == 2;
                even = even && (onLeft == 0 || how(100 * have(fit, onLeft, year) - fit[0] * g) == 2);
                if (even) {
                    all.add(g);
                }
            }
        }
        return all.isEmpty() ? NONE : high ? all.last() : all.first();
    }

    int goods(int stones, boolean left, int year, boolean high, int k) {
        if (!pile(stones) || year < 0 || year > 9) {
            return NONE;
        }
        return left ? tryGoods(stones, 0, year, high, k) : tryGoods(0, stones, year, high, k);
    }

    int twice(int right, int left, int year, boolean high, int k) {
        return !pile(right) || !pile(left) || year < 0 || year > 9 ? NONE : tryGoods(right, left, year, high, k);
    }

    int ratio(int a, int b, boolean high, int k) {
        return isStone(a) && isStone(b) ? least(k, high, NONE, SPENT, f -> f[3 + a] * 1000 / f[3 + b]) : NONE;
    }

    int sum(int stones, int year, boolean high, int k) {
        if (!pile(stones) || year < 0 || year > 9) {
            return NONE;
        }
        return least(k, high, NONE, SPENT, f -> have(f, stones, year));
    }

    // ---- THUMBS: every set of TRADERS is DOUBTED in turn

    int thumbs(int k) {
        TreeSet<Integer> who = new TreeSet<>();
        counting(k, doubted).forEach(w -> who.add(w.trader));
        if (ways() > 20000 || who.size() > 6) {
            return SPENT;
        }
        for (int many = 0; many <= who.size(); many++) {
            for (int set = 0; set < 1024; set++) {
                Set<Integer> doubts = new TreeSet<>(doubted);
                boolean some = Integer.bitCount(set) == many;
                for (int t = 0; t <= 9; t++) {
                    if ((set & 1 << t) != 0) {
                        some = some && who.contains(t);
                        doubts.add(t);
                    }
                }
                if (some && !search(counting(k, doubts)).isEmpty()) {
                    return set;
                }
            }
        }
        return NONE;
    }

    int about(int what) {
        int bits = doubted.stream().mapToInt(t -> 1 << t).sum();
        int[] all = {count(), text.weighings.size(), others.size(), text.sales.size(), time, tape.length(), bits};
        return what < 0 || what > 6 ? NONE : all[what];
    }

    /** A FIT as known now, or null: by it the tests tell weighings that hang together. */
    int[] someFit(int which) {
        List<int[]> all = known(time);
        return all == null || all.isEmpty() ? null : all.get(Math.floorMod(which, all.size()));
    }

    int showsBy(int[] fit, int left, int right, int year) {
        return shows(fit, left, right, year);
    }
}
