/** Promises 14 to 18: sheets, their torque, shapes at rest, and snaps. */
public final class SheetsTest {
    private static final Due DUE = new Due("SheetsTest");
    private static final int NO_TORQUE = -2000000000;

    public static void main(String[] args) {
        sheetsAreChecked();
        torques();
        torquesAreCut();
        restsAndStays();
        level();
        restsOfNothing();
        snaps();
        snapsOfNothing();
        DUE.end();
    }

    private static void sheetsAreChecked() {
        CreasedPaper x = new CreasedPaper(2);
        int[][] wrong = {{0, 0, 0, 0, 0}, {101, 0, 0, 0, 0}, {1, -181, 0, 0, 0}, {1, 181, 0, 0, 0},
            {1, 0, -1, 0, 0}, {1, 0, 101, 0, 0}, {1, 0, 0, -181, 0}, {1, 0, 0, 181, 0}, {1, 0, 0, 0, -181},
            {1, 0, 0, 0, 181}, {Integer.MIN_VALUE, 0, 0, 0, 0}, {1, Integer.MAX_VALUE, 0, 0, 0}};
        for (int[] w : wrong) {
            DUE.is("wrong sheet", x.sheet(w[0], w[1], w[2], w[3], w[4]), -1);
        }
        DUE.is("none yet", x.about(7), 0);
        DUE.is("least", x.sheet(1, -180, 0, -180, -180), 0);
        DUE.is("greatest", x.sheet(100, 180, 100, 180, 180), 1);
        for (int i = 2; i < 6; i++) {
            DUE.is("sheet", x.sheet(i, 0, 0, 0, 0), i);
        }
        DUE.is("six are all", x.sheet(1, 0, 0, 0, 0), -1);
        DUE.is("six", x.about(7), 6);
        DUE.is("the sixth", x.torque(5, 3), 15);
        DUE.is("no seventh", x.torque(6, 3), NO_TORQUE);
    }

    private static void torques() {
        CreasedPaper x = new CreasedPaper(2);
        DUE.is("no sheet", x.torque(0, 0), NO_TORQUE);
        x.sheet(100, 180, 100, 180, 180);
        DUE.is("far beyond the ints", x.torque(0, -180), -36000 - 4665600);
        DUE.is("at rest", x.torque(0, 180), 0);
        x.sheet(100, -180, 100, -180, -180);
        DUE.is("far beyond the ints", x.torque(1, 180), 36000 + 4665600);
        int[] angles = {-181, 181, Integer.MIN_VALUE, Integer.MAX_VALUE};
        for (int a : angles) {
            DUE.is("angle " + a, x.torque(0, a), NO_TORQUE);
        }
        int[] sheets = {-1, 2, 5, 6, Integer.MIN_VALUE, Integer.MAX_VALUE};
        for (int s : sheets) {
            DUE.is("sheet " + s, x.torque(s, 0), NO_TORQUE);
        }
        x.sheet(3, 10, 7, 20, -30);
        // 3 * 5 + 7 * 5 * (-5) * 45 / 1000
        DUE.is("told by hand", x.torque(2, 15), 15 - 7);
    }

    /** The part behind J is cut towards 0 by itself. */
    private static void torquesAreCut() {
        CreasedPaper x = new CreasedPaper(2);
        x.sheet(100, 0, 50, 60, -60);
        DUE.is("351.05 is taken from 5900", x.torque(0, 59), 5900 - 351);
        DUE.is("351.05 is added to -5900", x.torque(0, -59), -5900 + 351);
        x.sheet(1, 0, 1, 5, 5);
        DUE.is("below one", x.torque(1, 10), 10);
        DUE.is("below one, below 0", x.torque(1, -1), -1);
    }

    private static void restsAndStays() {
        CreasedPaper x = new CreasedPaper(2);
        x.sheet(1, 0, 50, 60, -60);
        int rests = 0;
        for (int push = -5000; push <= 5000; push += 613) {
            rests = checkRests(x, push);
            DUE.is("one or three at " + push, rests, push > -4000 && push < 4000 ? 3 : 1);
        }
        for (int a = -180; a <= 180; a += 12) {
            int push = x.torque(0, a);
            if (push >= -1000000 && push <= 1000000) {
                checkRests(x, push);
            }
        }
        x.sheet(2, 0, 0, 0, 0);
        DUE.is("180 by its torque", x.rests(1, 360, 0), 180);
        DUE.is("180 stays", x.stays(1, 360, 180), 1);
        DUE.is("beyond 180", x.rests(1, 361, -1), 0);
        DUE.is("beyond 180", x.stays(1, 361, 180), 0);
        DUE.is("-180 by its torque", x.rests(1, -360, 0), -180);
        DUE.is("-180 stays", x.stays(1, -360, -180), 1);
        DUE.is("-180 between", x.stays(1, -359, -180), 1);
        DUE.is("ahead of -180", x.rests(1, -361, -1), 0);
        // torque falls at 0: there it rests, but does not stay
        DUE.is("the middle one", x.rests(0, 0, 1), 0);
        DUE.is("does not stay", x.stays(0, 0, 0), 0);
        DUE.is("does not rest", x.stays(0, 0, 30), 0);
        x.sheet(1, 180, 100, 180, -180);
        DUE.is("no torque at 180", x.torque(2, 180), 0);
        DUE.is("180 rests", x.stays(2, 0, 180), x.torque(2, 179) < 0 ? 1 : 0);
    }

    /** Two like torques side by side: both rest, neither stays. */
    private static void level() {
        CreasedPaper x = new CreasedPaper(2);
        x.sheet(1, 0, 1, -95, -95);
        int[] torques = {-160, -159, -159, -157};
        for (int i = 0; i < 4; i++) {
            DUE.is("torque", x.torque(0, -34 + i), torques[i]);
        }
        DUE.is("the lower one", x.stays(0, -159, -33), 0);
        DUE.is("the higher one", x.stays(0, -159, -32), 0);
        DUE.is("ahead", x.stays(0, -160, -34), 1);
        DUE.is("behind", x.stays(0, -158, -32), 1);
        DUE.is("far off from below", x.snap(0, -34, -160, -159, 0), -115);
        DUE.is("a snap", x.snap(0, -34, -160, -159, 1), 1);
        DUE.is("its push", x.snap(0, -34, -160, -159, 2), -159);
        DUE.is("far off from above", x.snap(0, -32, -158, -159, 0), -115);
        checkRests(x, -159);
    }

    private static int checkRests(CreasedPaper x, int push) {
        int count = 0;
        for (int a = -180; a <= 180; a++) {
            long here = x.torque(0, a);
            boolean rests = here == push;
            if (a < 180 && !rests) {
                rests = here < push != x.torque(0, a + 1) < push && x.torque(0, a + 1) != push;
            }
            if (rests) {
                DUE.is("rests(" + push + ", " + count + ")", x.rests(0, push, count), a);
                count++;
            }
            boolean stays = rests && (a == 180 || x.torque(0, a + 1) > push)
                    && (a == -180 || x.torque(0, a - 1) < push);
            DUE.is("stays(" + push + ", " + a + ")", x.stays(0, push, a), stays ? 1 : 0);
        }
        DUE.is("rests " + push, x.rests(0, push, -1), count);
        DUE.is("none behind the last", x.rests(0, push, count), -1000);
        return count;
    }

    private static void restsOfNothing() {
        CreasedPaper x = new CreasedPaper(2);
        DUE.is("no sheet", x.rests(0, 0, -1), -1000);
        DUE.is("no sheet", x.stays(0, 0, 0), -1);
        x.sheet(1, 0, 0, 0, 0);
        int[] pushes = {-1000001, 1000001, Integer.MIN_VALUE, Integer.MAX_VALUE};
        for (int push : pushes) {
            DUE.is("push", x.rests(0, push, -1), -1000);
            DUE.is("push", x.stays(0, push, 0), -1);
        }
        DUE.is("greatest push", x.rests(0, 1000000, -1), 0);
        DUE.is("least push", x.rests(0, -1000000, -1), 0);
        DUE.is("greatest push", x.stays(0, 1000000, 0), 0);
        DUE.is("i", x.rests(0, 0, -2), -1000);
        DUE.is("i", x.rests(0, 0, Integer.MIN_VALUE), -1000);
        DUE.is("i", x.rests(0, 0, Integer.MAX_VALUE), -1000);
        DUE.is("sheet", x.rests(1, 0, -1), -1000);
        DUE.is("sheet", x.rests(-1, 0, -1), -1000);
        DUE.is("sheet", x.stays(1, 0, 0), -1);
        DUE.is("angle", x.stays(0, 0, -181), -1);
        DUE.is("angle", x.stays(0, 0, 181), -1);
    }

    private static void snaps() {
        CreasedPaper x = new CreasedPaper(2);
        x.sheet(1, 0, 50, 60, -60);
        DUE.is("there", x.snap(0, -60, 0, 2000, 0), -54);
        DUE.is("no snap", x.snap(0, -60, 0, 2000, 1), 0);
        DUE.is("no push", x.snap(0, -60, 0, 2000, 2), NO_TORQUE);
        DUE.is("over the top", x.snap(0, -36, 4120, 4121, 0), 69);
        DUE.is("one snap", x.snap(0, -36, 4120, 4121, 1), 1);
        DUE.is("at once", x.snap(0, -36, 4120, 4121, 2), 4121);
        DUE.is("and down again", x.snap(0, 69, 4121, 2121, 0), 65);
        DUE.is("over the other top", x.snap(0, 35, -4119, -5119, 1), 1);
        DUE.is("its push", x.snap(0, 35, -4119, -5119, 2), -4120);
        DUE.is("no step", x.snap(0, -60, 0, 0, 0), -60);
        x.sheet(2, 0, 0, 0, 0);
        DUE.is("gone", x.snap(1, 180, 360, 361, 0), -1000);
        DUE.is("gone is no snap", x.snap(1, 180, 360, 361, 1), 0);
        DUE.is("gone is no snap", x.snap(1, 180, 360, 361, 2), NO_TORQUE);
        DUE.is("2000 steps", x.snap(1, 0, 0, 2000, 0), -1000);
        DUE.is("2000 steps down", x.snap(1, 180, 360, -360, 0), -180);
        DUE.is("greatest push and step", x.snap(1, 0, 1000000, 998000, 0), -3000);
    }

    private static void snapsOfNothing() {
        CreasedPaper x = new CreasedPaper(2);
        DUE.is("no sheet", x.snap(0, 0, 0, 0, 0), -3000);
        x.sheet(2, 0, 0, 0, 0);
        DUE.is("there", x.snap(0, 0, 0, 0, 0), 0);
        int[][] wrong = {{-1, 0, 0, 0, 0}, {1, 0, 0, 0, 0}, {0, -181, 0, 0, 0}, {0, 181, 0, 0, 0},
            {0, 0, 0, 2001, 0}, {0, 0, 0, -2001, 0}, {0, 0, 0, 1, -1}, {0, 0, 0, 1, 3},
            {0, 0, 0, Integer.MIN_VALUE, 0}, {0, 0, Integer.MAX_VALUE, Integer.MIN_VALUE, 0},
            {0, 0, 2000000000, -2000000000, 0}, {0, 1, 0, 1, 0}, {0, 0, 2, 3, 0},
            {0, Integer.MIN_VALUE, 0, 0, 0}};
        for (int[] w : wrong) {
            DUE.is("wrong snap", x.snap(w[0], w[1], w[2], w[3], w[4]), -3000);
        }
        x.sheet(100, -180, 100, -180, -180);
        int top = x.torque(1, 32);
        DUE.is("near the greatest push", top < 1000000 && top > 900000, true);
        DUE.is("within", x.snap(1, 32, top, top + 2000, 1), 0);
        DUE.is("two thousand and one", x.snap(1, 32, top, top + 2001, 1), -3000);
        int near = x.rests(1, 999999, 0);
        DUE.is("to the greatest", x.snap(1, near, 999999, 1000000, 1), 0);
        DUE.is("beyond the greatest", x.snap(1, near, 999999, 1000001, 1), -3000);
    }
}
