/**
 * Promises 14 to 18: SHEETS, TORQUE, RESTS, STAYS and SNAPS. Each sentence of the document that
 * names a boundary case has a test of its own.
 */
public final class SheetsEdgesTest {
    private static final Due DUE = new Due("SheetsEdgesTest");
    private static final int NO_TORQUE = -2000000000;
    private static final int MOST = 1000000;

    public static void main(String[] args) {
        bounds();
        others();
        sixSheets();
        torqueEdges();
        torqueOthers();
        torqueIsCut();
        torqueBeyondInts();
        pushEdges();
        restsAtItsTorque();
        restsBetween();
        restsBetweenNeverAt180();
        restsOfNone();
        restsOthers();
        staysBetweenItsNeighbours();
        staysAtTheLowEnd();
        staysAtTheHighEnd();
        staysOthers();
        steps();
        oneAwayIsNoSnap();
        furtherIsASnap();
        severalSnaps();
        gone();
        goneAtTheEnds();
        snapOthers();
        snapFromNoRest();
        DUE.end();
    }

    private static CreasedPaper withSheet(int stiff, int rest, int bend, int m, int q) {
        CreasedPaper x = new CreasedPaper(2);
        DUE.is("sheet " + stiff + " " + rest + " " + bend + " " + m + " " + q, x.sheet(stiff, rest, bend, m, q), 0);
        return x;
    }

    private static void bounds() {
        DUE.sentence("STIFF K (1 .. 100), rest R (-180 .. 180), BEND J (0 .. 100), M and Q (-180 .. 180 each).");
        DUE.is("K 1", withSheet(1, 0, 0, 0, 0).torque(0, 7), 7);
        DUE.is("K 100", withSheet(100, 0, 0, 0, 0).torque(0, 7), 700);
        DUE.is("R -180", withSheet(1, -180, 0, 0, 0).torque(0, 0), 180);
        DUE.is("R 180", withSheet(1, 180, 0, 0, 0).torque(0, 0), -180);
        DUE.is("J 0", withSheet(1, 0, 0, 90, 90).torque(0, 100), 100);
        DUE.is("J 100", withSheet(1, 0, 100, 90, 90).torque(0, 100), 1100);
        DUE.is("M -180", withSheet(1, 0, 1, -180, 0).torque(0, 10), 10 + 19);
        DUE.is("M 180", withSheet(1, 0, 1, 180, 0).torque(0, 10), 10 - 17);
        DUE.is("Q -180", withSheet(1, 0, 1, 0, -180).torque(0, 10), 10 + 19);
        DUE.is("Q 180", withSheet(1, 0, 1, 0, 180).torque(0, 10), 10 - 17);
    }

    private static void others() {
        DUE.sentence("A SHEET: its number. NONE for others");
        CreasedPaper x = new CreasedPaper(2);
        int[][] wrong = {{0, 0, 0, 0, 0}, {-1, 0, 0, 0, 0}, {101, 0, 0, 0, 0}, {1, -181, 0, 0, 0}, {1, 181, 0, 0, 0},
            {1, 0, -1, 0, 0}, {1, 0, 101, 0, 0}, {1, 0, 0, -181, 0}, {1, 0, 0, 181, 0}, {1, 0, 0, 0, -181},
            {1, 0, 0, 0, 181}};
        for (int[] w : wrong) {
            DUE.is("wrong sheet", x.sheet(w[0], w[1], w[2], w[3], w[4]), -1);
        }
        for (int far : Acts.FAR) {
            DUE.is("far K", x.sheet(far, 0, 0, 0, 0), -1);
            DUE.is("far R", x.sheet(1, far, 0, 0, 0), -1);
            DUE.is("far J", x.sheet(1, 0, far, 0, 0), -1);
            DUE.is("far M", x.sheet(1, 0, 0, far, 0), -1);
            DUE.is("far Q", x.sheet(1, 0, 0, 0, far), -1);
        }
        DUE.is("there is none", x.about(7), 0);
        DUE.is("there is none", x.torque(0, 0), NO_TORQUE);
        DUE.is("the next has the first number", x.sheet(1, 0, 0, 0, 0), 0);
    }

    private static void sixSheets() {
        DUE.sentence("SHEETS 0 .. 5 .. (NONE ..) if there are 6.");
        CreasedPaper x = new CreasedPaper(2);
        for (int i = 0; i < 6; i++) {
            DUE.is("no sheet yet", x.torque(i, 1), NO_TORQUE);
            DUE.is("sheet", x.sheet(i + 1, 0, 0, 0, 0), i);
            DUE.is("sheets", x.about(7), i + 1);
        }
        DUE.is("there are 6", x.sheet(9, 0, 0, 0, 0), -1);
        DUE.is("still 6", x.about(7), 6);
        for (int i = 0; i < 6; i++) {
            DUE.is("as they were", x.torque(i, 1), i + 1);
        }
        DUE.is("no sheet 6", x.torque(6, 1), NO_TORQUE);
        x.back();
        DUE.is("none again", x.about(7), 0);
        DUE.is("room again", x.sheet(9, 0, 0, 0, 0), 0);
    }

    private static void torqueEdges() {
        DUE.sentence("TORQUE at an ANGLE a (whole, -180 .. 180)");
        CreasedPaper x = withSheet(2, 10, 0, 0, 0);
        DUE.is("the least", x.torque(0, -180), -380);
        DUE.is("the greatest", x.torque(0, 180), 340);
        DUE.is("below", x.torque(0, -181), NO_TORQUE);
        DUE.is("above", x.torque(0, 181), NO_TORQUE);
    }

    private static void torqueOthers() {
        DUE.sentence("TORQUE. -2000000000 for others.");
        CreasedPaper x = withSheet(2, 10, 0, 0, 0);
        DUE.is("sheet -1", x.torque(-1, 0), NO_TORQUE);
        DUE.is("sheet 1", x.torque(1, 0), NO_TORQUE);
        for (int far : Acts.FAR) {
            DUE.is("sheet " + far, x.torque(far, 0), NO_TORQUE);
            DUE.is("angle " + far, x.torque(0, far), NO_TORQUE);
        }
    }

    private static void torqueIsCut() {
        DUE.sentence("K * (a - R) + J * (a - R) * (a - M) * (a - Q) / 1000, cut.");
        // J * 10 * 10 * 10 / 1000 is J; a ninth and an eleventh show the cut.
        CreasedPaper x = withSheet(1, 0, 1, 0, 0);
        int[][] rows = {{9, 9}, {10, 11}, {11, 12}, {12, 13}, {13, 15}, {-9, -9}, {-10, -11}, {-11, -12}, {-12, -13},
            {-13, -15}, {0, 0}};
        for (int[] row : rows) {
            DUE.is("at " + row[0], x.torque(0, row[0]), row[1]);
        }
        // 100 * 59 - 351.05 and its mirror: the quotient is cut, not the sum.
        CreasedPaper y = withSheet(100, 0, 50, 60, -60);
        DUE.is("cut towards 0 from below", y.torque(0, 59), 5549);
        DUE.is("cut towards 0 from above", y.torque(0, -59), -5549);
    }

    private static void torqueBeyondInts() {
        DUE.sentence("K * (a - R) + J * (a - R) * (a - M) * (a - Q) / 1000");
        // 100 * 360 * 360 * 360 is 4665600000, beyond the ints.
        DUE.is("the greatest", withSheet(100, -180, 100, -180, -180).torque(0, 180), 4701600);
        DUE.is("the least", withSheet(100, 180, 100, 180, 180).torque(0, -180), -4701600);
        DUE.is("between", withSheet(1, -180, 100, -180, -100).torque(0, 180), 360 + 3628800);
    }

    private static void pushEdges() {
        DUE.sentence("By a PUSH P (-1000000 .. 1000000)");
        CreasedPaper x = withSheet(100, -180, 100, -180, -180);
        DUE.is("the greatest", x.rests(0, MOST, -1), 1);
        DUE.is("the greatest", x.rests(0, MOST, 0), 33);
        DUE.is("the greatest", x.stays(0, MOST, 33), 1);
        DUE.is("to the greatest", x.snap(0, 33, MOST - 1, MOST, 0), 33);
        DUE.is("from the greatest", x.snap(0, 33, MOST, MOST - 1, 0), 33);
        DUE.is("beyond", x.rests(0, MOST + 1, -1), -1000);
        DUE.is("beyond", x.stays(0, MOST + 1, 33), -1);
        DUE.is("to beyond", x.snap(0, 33, MOST, MOST + 1, 0), -3000);
        DUE.is("from beyond", x.snap(0, 33, MOST + 1, MOST, 0), -3000);
        CreasedPaper y = withSheet(100, 180, 100, 180, 180);
        DUE.is("the least", y.rests(0, -MOST, -1), 1);
        DUE.is("the least", y.rests(0, -MOST, 0), -34);
        DUE.is("the least", y.stays(0, -MOST, -34), 1);
        DUE.is("to the least", y.snap(0, -34, 1 - MOST, -MOST, 0), -34);
        DUE.is("from the least", y.snap(0, -34, -MOST, 1 - MOST, 0), -34);
        DUE.is("beyond", y.rests(0, -MOST - 1, -1), -1000);
        DUE.is("beyond", y.stays(0, -MOST - 1, -34), -1);
        DUE.is("to beyond", y.snap(0, -34, -MOST, -MOST - 1, 0), -3000);
        DUE.is("from beyond", y.snap(0, -34, -MOST - 1, -MOST, 0), -3000);
    }

    private static void rest(CreasedPaper x, int push, int... angles) {
        DUE.is("rests by " + push, x.rests(0, push, -1), angles.length);
        for (int i = 0; i < angles.length; i++) {
            DUE.is("rest " + i + " by " + push, x.rests(0, push, i), angles[i]);
        }
        DUE.is("none behind them", x.rests(0, push, angles.length), -1000);
    }

    private static void restsAtItsTorque() {
        DUE.sentence("a RESTS, if TORQUE at a is P");
        CreasedPaper x = withSheet(2, 0, 0, 0, 0);
        rest(x, 20, 10);
        rest(x, 0, 0);
        rest(x, 360, 180);
        rest(x, -360, -180);
        rest(x, -358, -179);
        rest(x, 358, 179);
    }

    private static void restsBetween() {
        DUE.sentence("or TORQUES at a and a + 1 are on both sides of P (one below, one above ..)");
        CreasedPaper x = withSheet(2, 0, 0, 0, 0);
        rest(x, 21, 10);
        rest(x, 19, 9);
        rest(x, -359, -180);
        rest(x, 359, 179);
        // Falling from 178 at -1 over 0 to -178 at 1.
        CreasedPaper y = withSheet(1, 0, 50, 60, -60);
        rest(y, -100, -61, 0, 59);
        rest(y, 100, -60, -1, 60);
        rest(y, 0, -60, 0, 59);
    }

    private static void restsBetweenNeverAt180() {
        DUE.sentence("(.. 180 never so)");
        CreasedPaper x = withSheet(2, 0, 0, 0, 0);
        rest(x, 361);
        rest(x, 362);
        rest(x, 1000000);
        // Torque falls from 34 at 179 to 0 at 180: what is below 0 has no other side there.
        CreasedPaper y = withSheet(1, 180, 100, 180, -180);
        rest(y, -1, -180);
        rest(y, 0, -180, 180);
        rest(y, 1, -180, 179);
    }

    private static void restsOfNone() {
        DUE.sentence("How many ANGLES REST by a PUSH (i NONE), the i-th by rising ones. -1000 if there is none such");
        CreasedPaper x = withSheet(1, 0, 50, 60, -60);
        DUE.is("three", x.rests(0, 0, -1), 3);
        int[] angles = {-60, 0, 59};
        for (int i = 0; i < 3; i++) {
            DUE.is("the " + i + "-th", x.rests(0, 0, i), angles[i]);
        }
        DUE.is("no fourth", x.rests(0, 0, 3), -1000);
        DUE.is("no far one", x.rests(0, 0, Integer.MAX_VALUE), -1000);
        DUE.is("none at all", x.rests(0, 1000000, -1), 0);
        DUE.is("none at all", x.rests(0, 1000000, 0), -1000);
    }

    private static void restsOthers() {
        DUE.sentence("(-1000 if there is none such,) and for others.");
        CreasedPaper none = new CreasedPaper(2);
        DUE.is("no sheet", none.rests(0, 0, -1), -1000);
        CreasedPaper x = withSheet(1, 0, 50, 60, -60);
        DUE.is("i -2", x.rests(0, 0, -2), -1000);
        DUE.is("sheet -1", x.rests(-1, 0, -1), -1000);
        DUE.is("sheet 1", x.rests(1, 0, -1), -1000);
        for (int far : Acts.FAR) {
            DUE.is("sheet " + far, x.rests(far, 0, -1), -1000);
            DUE.is("push " + far, x.rests(0, far, -1), -1000);
            DUE.is("push " + far, x.rests(0, far, 0), -1000);
            DUE.is("i " + far, x.rests(0, 0, far), -1000);
        }
    }

    private static void staysBetweenItsNeighbours() {
        DUE.sentence("It STAYS, if TORQUE at a + 1 is above P and that at a - 1 is below it");
        CreasedPaper x = withSheet(1, 0, 50, 60, -60);
        int[] stays = {1, 0, 1};
        int[] rests = {-60, 0, 59};
        for (int i = 0; i < 3; i++) {
            DUE.is("by 0 at " + rests[i], x.stays(0, 0, rests[i]), stays[i]);
        }
        DUE.is("it does not rest", x.stays(0, 0, 58), 0);
        DUE.is("it does not rest", x.stays(0, 0, 60), 0);
        // -160, -159, -159, -157 at -34 .. -31: alike is neither above nor below.
        CreasedPaper y = withSheet(1, 0, 1, -95, -95);
        DUE.is("a + 1 is alike", y.stays(0, -159, -33), 0);
        DUE.is("a - 1 is alike", y.stays(0, -159, -32), 0);
        DUE.is("a - 1 is one below", y.stays(0, -158, -32), 1);
        DUE.is("a + 1 is one above", y.stays(0, -160, -34), 1);
        rest(y, -159, -115, -43, -42, -33, -32);
    }

    private static void staysAtTheLowEnd() {
        DUE.sentence("(-180: the first alone ..)");
        CreasedPaper x = withSheet(2, 0, 0, 0, 0);
        DUE.is("at its torque", x.stays(0, -360, -180), 1);
        DUE.is("between", x.stays(0, -359, -180), 1);
        DUE.is("it does not rest", x.stays(0, -361, -180), 0);
        DUE.is("-179 has two neighbours", x.stays(0, -358, -179), 1);
        // Torque falls from 0 to -34 behind -180.
        CreasedPaper y = withSheet(1, -180, 100, -180, 180);
        DUE.is("it rests", y.rests(0, 0, 0), -180);
        DUE.is("but the next is below", y.stays(0, 0, -180), 0);
        DUE.is("it rests between", y.rests(0, -10, 0), -180);
        DUE.is("but the next is below", y.stays(0, -10, -180), 0);
    }

    private static void staysAtTheHighEnd() {
        DUE.sentence("(.. 180: the second alone)");
        CreasedPaper x = withSheet(2, 0, 0, 0, 0);
        DUE.is("at its torque", x.stays(0, 360, 180), 1);
        DUE.is("it does not rest", x.stays(0, 359, 180), 0);
        DUE.is("it does not rest", x.stays(0, 361, 180), 0);
        DUE.is("179 between", x.stays(0, 359, 179), 1);
        DUE.is("179 at its torque", x.stays(0, 358, 179), 1);
        // Torque falls from 34 to 0 ahead of 180.
        CreasedPaper y = withSheet(1, 180, 100, 180, -180);
        DUE.is("it rests", y.rests(0, 0, y.rests(0, 0, -1) - 1), 180);
        DUE.is("but the one ahead is above", y.stays(0, 0, 180), 0);
    }

    private static void staysOthers() {
        DUE.sentence("Whether an ANGLE RESTS and STAYS (1, 0). NONE for others.");
        DUE.is("no sheet", new CreasedPaper(2).stays(0, 0, 0), -1);
        CreasedPaper x = withSheet(2, 0, 0, 0, 0);
        DUE.is("it does", x.stays(0, 0, 0), 1);
        DUE.is("angle -181", x.stays(0, 0, -181), -1);
        DUE.is("angle 181", x.stays(0, 0, 181), -1);
        DUE.is("sheet -1", x.stays(-1, 0, 0), -1);
        DUE.is("sheet 1", x.stays(1, 0, 0), -1);
        for (int far : Acts.FAR) {
            DUE.is("sheet " + far, x.stays(far, 0, 0), -1);
            DUE.is("push " + far, x.stays(0, far, 0), -1);
            DUE.is("angle " + far, x.stays(0, 0, far), -1);
        }
    }

    private static void pushed(CreasedPaper x, int angle, int push, int to, int... due) {
        for (int what = 0; what < 3; what++) {
            DUE.is("snap(0, " + angle + ", " + push + ", " + to + ", " + what + ")",
                    x.snap(0, angle, push, to, what), due[what]);
        }
    }

    private static void steps() {
        DUE.sentence("SNAP from an ANGLE by P to P2 (2000 steps at most)");
        CreasedPaper x = withSheet(100, 0, 0, 0, 0);
        pushed(x, 0, 0, 0, 0, 0, NO_TORQUE);
        pushed(x, 0, 99, 99, 0, 0, NO_TORQUE);
        pushed(x, 0, 0, 1999, 19, 0, NO_TORQUE);
        pushed(x, 0, 0, 2000, 20, 0, NO_TORQUE);
        pushed(x, 0, 0, -2000, -20, 0, NO_TORQUE);
        pushed(x, 10, 1000, -1000, -10, 0, NO_TORQUE);
        pushed(x, 0, 0, 2001, -3000, -3000, -3000);
        pushed(x, 0, 0, -2001, -3000, -3000, -3000);
        pushed(x, 10, 1000, -1001, -3000, -3000, -3000);
    }

    private static void oneAwayIsNoSnap() {
        DUE.sentence("if the ANGLE doesn't REST and STAY any more: the nearest one that does, at most 1 away");
        CreasedPaper x = withSheet(2, 0, 0, 0, 0);
        pushed(x, 0, 0, 1, 0, 0, NO_TORQUE);
        pushed(x, 0, 0, 2, 1, 0, NO_TORQUE);
        pushed(x, 0, 0, -1, -1, 0, NO_TORQUE);
        pushed(x, 0, 0, 360, 180, 0, NO_TORQUE);
        pushed(x, 0, 0, -360, -180, 0, NO_TORQUE);
    }

    private static void furtherIsASnap() {
        DUE.sentence("else it SNAPS: to the nearest one that does of all");
        // -27, -26, -25, -26, -25, -24 at 75 .. 80: three away is the least that a SNAP can be.
        CreasedPaper x = withSheet(3, 84, 89, 73, 75);
        pushed(x, 76, -26, -25, 79, 1, -25);
        pushed(x, 79, -25, -26, 76, 1, -26);
        pushed(x, 79, -25, -24, 80, 0, NO_TORQUE);
        pushed(x, 76, -26, -27, 75, 0, NO_TORQUE);
        pushed(x, 76, -26, -24, 80, 1, -25);
        CreasedPaper y = withSheet(1, 0, 50, 60, -60);
        pushed(y, -36, 4120, 4121, 69, 1, 4121);
        pushed(y, 35, -4119, -4120, -70, 1, -4120);
        // All the way from 180 to -180.
        CreasedPaper z = withSheet(4, -24, 84, -180, 180);
        pushed(z, 180, 816, 817, -180, 1, 817);
    }

    private static void severalSnaps() {
        DUE.sentence("1 how many SNAPS, 2 the PUSH at the first one (-2000000000 without).");
        CreasedPaper x = withSheet(1, 80, 1, 89, 3);
        pushed(x, 80, 0, 0, 80, 0, NO_TORQUE);
        pushed(x, 80, 0, 1, 17, 1, 1);
        pushed(x, 80, 0, 30, 31, 1, 1);
        pushed(x, 80, 0, 31, 97, 2, 1);
        CreasedPaper y = withSheet(1, 103, 1, 29, 59);
        pushed(y, -63, -2029, -47, 43, 0, NO_TORQUE);
        pushed(y, -63, -2029, -46, 82, 1, -46);
        pushed(y, -63, -2029, -45, 46, 2, -46);
        pushed(y, -63, -2029, -44, 85, 3, -46);
        pushed(y, -63, -2029, -29, 94, 3, -46);
    }

    private static void gone() {
        DUE.sentence("without any it is gone.");
        CreasedPaper x = withSheet(1, 51, 1, 46, -13);
        pushed(x, 54, 4, -6, 45, 0, NO_TORQUE);
        pushed(x, 54, 4, -7, 11, 1, -7);
        pushed(x, 54, 4, -8, -1000, 1, -7);
        // By -9 the angle 8 rests and stays, but what is gone does not come back.
        DUE.is("there is one", x.stays(0, -9, 8), 1);
        pushed(x, 54, 4, -9, -1000, 1, -7);
        pushed(x, 11, -7, -9, -1000, 0, NO_TORQUE);
    }

    private static void goneAtTheEnds() {
        DUE.sentence("0 the ANGLE at the end (-1000: gone)");
        CreasedPaper x = withSheet(2, 0, 0, 0, 0);
        pushed(x, 179, 359, 360, 180, 0, NO_TORQUE);
        pushed(x, 180, 360, 361, -1000, 0, NO_TORQUE);
        pushed(x, 180, 360, 359, 179, 0, NO_TORQUE);
        pushed(x, -180, -360, -361, -1000, 0, NO_TORQUE);
        pushed(x, -180, -360, -359, -180, 0, NO_TORQUE);
        pushed(x, -180, -360, -358, -179, 0, NO_TORQUE);
        pushed(x, 0, 0, 2000, -1000, 0, NO_TORQUE);
        pushed(x, 0, 0, -2000, -1000, 0, NO_TORQUE);
    }

    private static void snapOthers() {
        DUE.sentence("-3000 for others");
        DUE.is("no sheet", new CreasedPaper(2).snap(0, 0, 0, 0, 0), -3000);
        CreasedPaper x = withSheet(2, 0, 0, 0, 0);
        DUE.is("what 2", x.snap(0, 0, 0, 1, 2), NO_TORQUE);
        int[][] wrong = {{-1, 0, 0, 0, 0}, {1, 0, 0, 0, 0}, {0, -181, 0, 0, 0}, {0, 181, 0, 0, 0}, {0, 0, 0, 0, -1},
            {0, 0, 0, 0, 3}};
        for (int[] w : wrong) {
            DUE.is("wrong snap", x.snap(w[0], w[1], w[2], w[3], w[4]), -3000);
        }
        for (int far : Acts.FAR) {
            DUE.is("sheet " + far, x.snap(far, 0, 0, 0, 0), -3000);
            DUE.is("angle " + far, x.snap(0, far, 0, 0, 0), -3000);
            DUE.is("push " + far, x.snap(0, 0, far, 0, 0), -3000);
            DUE.is("to " + far, x.snap(0, 0, 0, far, 0), -3000);
            DUE.is("both " + far, x.snap(0, 0, far, far, 0), -3000);
            DUE.is("round about " + far, x.snap(0, 0, far, -far, 0), -3000);
            DUE.is("what " + far, x.snap(0, 0, 0, 0, far), -3000);
        }
    }

    private static void snapFromNoRest() {
        DUE.sentence("(-3000 for others,) and if it doesn't REST and STAY by P.");
        CreasedPaper x = withSheet(1, 0, 50, 60, -60);
        pushed(x, 58, 0, 10, -3000, -3000, -3000);
        pushed(x, 0, 0, 10, -3000, -3000, -3000);
        pushed(x, 0, 0, 0, -3000, -3000, -3000);
        pushed(x, 59, 0, 0, 59, 0, NO_TORQUE);
        CreasedPaper y = withSheet(2, 0, 0, 0, 0);
        pushed(y, 180, 361, 360, -3000, -3000, -3000);
        pushed(y, -180, -361, -360, -3000, -3000, -3000);
    }
}
