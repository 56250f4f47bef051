/** All that can be seen of an object by questions that change nothing, as one text. */
final class Sight {
    private Sight() {
    }

    static String of(StoneTrust x) {
        StringBuilder seen = new StringBuilder();
        for (int what = 0; what <= 6; what++) {
            seen.append(x.about(what)).append(' ');
        }
        seen.append(x.fault(0)).append(' ').append(x.fault(1)).append(" : ");
        int now = x.about(4);
        int[] times = {-1, now - 1, now};
        for (int k : times) {
            seen.append(x.fits(k)).append(' ').append(x.thumbs(k)).append(' ').append(x.set(0, k)).append(' ');
            for (int what = 0; what <= 5; what++) {
                seen.append(x.span(what, false, k)).append(' ').append(x.span(what, true, k)).append(' ');
            }
            seen.append(x.next(0, k)).append(' ').append(x.clear(0, 0, k)).append(' ');
            seen.append(x.debt(1, true, k)).append(' ').append(x.owed(0, false, k)).append("; ");
        }
        return seen.toString();
    }
}
