/** Texts that are villages, and texts with a FAULT. */
final class Reading {
    private Reading() {
    }

    static String stone(String name, int says, int town, int off, int worn) {
        return "stone " + name + " says " + says + " in " + town + " off " + off + " worn " + worn + ";";
    }

    /** As many STONES, named a, b, .., each of 16 grains if nothing else is told. */
    static String plainStones(int many) {
        StringBuilder all = new StringBuilder();
        for (int i = 0; i < many; i++) {
            all.append(stone("" + (char) ('a' + i), 1, 0, 0, 0));
        }
        return all.toString();
    }

    static void right(String text, int lines) {
        StoneTrust x = new StoneTrust();
        Check.same("lines of " + text, Feeder.read(x, text), lines);
        Check.same("fault(0) of " + text, x.fault(0), 0);
        Check.same("fault(1) of " + text, x.fault(1), StoneTrust.NONE);
        Check.same("tape behind " + text, x.about(5), 0);
    }

    /** The place is where the mark | stands, which is no part of the text. */
    static void wrong(int fault, String marked) {
        int place = marked.indexOf('|');
        String text = marked.substring(0, place) + marked.substring(place + 1);
        StoneTrust x = new StoneTrust();
        Check.same("village of " + text, Feeder.read(x, text), StoneTrust.NONE);
        Check.same("fault(0) of " + text, x.fault(0), fault);
        Check.same("fault(1) of " + text, x.fault(1), place);
        Check.same("fault(2) of " + text, x.fault(2), StoneTrust.NONE);
        Check.same("fault(-1) of " + text, x.fault(-1), StoneTrust.NONE);
        Check.same("tape behind " + text, x.about(5), text.length());
    }

    /** A number of a line has these bounds: both of them can be, what is next to them can't. */
    static void bounds(String before, int low, int high, String behind) {
        int lines = (before + behind).split(";", -1).length - 1;
        right(before + low + behind, lines);
        right(before + high + behind, lines);
        if (low > 0) {
            wrong(4, before + "|" + (low - 1) + behind);
            wrong(4, before + "|" + 0 + behind);
        }
        wrong(4, before + "|" + (high + 1) + behind);
        wrong(4, before + "|" + 9999 + behind);
    }
}
