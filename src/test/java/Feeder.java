/** Brings a text to the TAPE. */
final class Feeder {
    private Feeder() {
    }

    static StoneTrust village(String text) {
        StoneTrust x = new StoneTrust();
        Check.same("village of " + text, read(x, text) >= 0, true);
        return x;
    }

    static int read(StoneTrust x, String text) {
        feed(x, text);
        return x.village();
    }

    static void feed(StoneTrust x, String text) {
        int before = x.about(5);
        for (int i = 0; i < text.length(); i += 20) {
            x.feed(four(text, i), four(text, i + 4), four(text, i + 8), four(text, i + 12), four(text, i + 16));
        }
        x.end(before + text.length());
    }

    static int four(String text, int at) {
        int all = 0;
        for (int i = at; i < at + 4; i++) {
            all = all << 8 | (i < text.length() ? text.charAt(i) & 255 : 32);
        }
        return all;
    }
}
