/** Runs of acts that several tests need. */
final class Acts {
    static final int LAST_TICK = 100000;
    /** Numbers that are far from all that can be told, and that wrap around when reckoned with. */
    static final int[] FAR = {Integer.MIN_VALUE, Integer.MIN_VALUE + 1, -2000000000, -(1 << 30), -1000001,
        1000001, 1 << 30, 2000000000, Integer.MAX_VALUE - 1, Integer.MAX_VALUE};

    private Acts() {
    }

    static void holdTo(CreasedPaper x, int clock) {
        for (int left = clock - x.about(1); left > 0; left -= 1000) {
            x.hold(Math.min(left, 1000));
        }
    }

    /** Folds LEFT at 1, 2, .. count: all these CELLS lie in PLACE count, one on the other. */
    static void rollUp(CreasedPaper x, int count) {
        for (int line = 1; line <= count; line++) {
            x.fold(line, false);
        }
    }

    static void foldAndOpen(CreasedPaper x, int line, int times) {
        for (int i = 0; i < times; i++) {
            x.fold(line, true);
            x.open();
        }
    }
}
