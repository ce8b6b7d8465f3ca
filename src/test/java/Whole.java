/** All that can be asked for of a paper, as one text, to see whether a call changed something. */
final class Whole {
    private Whole() {
    }

    static String of(CreasedPaper x) {
        StringBuilder b = new StringBuilder(withoutTape(x));
        b.append(" tape ").append(x.about(8)).append(" fault");
        for (int what = 0; what < 3; what++) {
            b.append(' ').append(x.fault(what));
        }
        return b.toString();
    }

    /** What an image holds, but for the rules and what was told at other times than the look's. */
    static String withoutTape(CreasedPaper x) {
        StringBuilder b = new StringBuilder("about");
        for (int what = 0; what <= 10; what++) {
            b.append(' ').append(what == 8 ? 0 : x.about(what));
        }
        b.append(" cells");
        for (int u = 0; u < x.about(0); u++) {
            for (int what = 0; what < 3; what++) {
                b.append(' ').append(x.cell(u, what));
            }
        }
        b.append(" creases");
        for (int p = 1; p < x.about(0); p++) {
            for (int what = 0; what < 7; what++) {
                b.append(' ').append(x.crease(p, what));
            }
        }
        b.append(" sheets");
        for (int s = 0; s < 6; s++) {
            b.append(' ').append(x.torque(s, 17));
        }
        b.append(" orders ").append(x.orders(4, 2, -1, 0)).append(' ').append(x.next(5, 2));
        return b.toString();
    }
}
