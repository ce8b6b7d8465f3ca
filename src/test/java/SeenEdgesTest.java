/**
 * Promises 20 to 23: what was SEEN, THE LOOK, ORDERS and the NEXT LOOK. Each sentence of the
 * document that names a boundary case has a test of its own.
 */
public final class SeenEdgesTest {
    private static final Due DUE = new Due("SeenEdgesTest");
    /** Of 2 .. 12 CELLS: how many ORDERS of one, two and three FOLDS there are. */
    private static final int[][] ORDERS = {{2, 0, 0}, {4, 4, 0}, {6, 12, 12}, {8, 24, 44}, {10, 40, 108},
        {12, 60, 208}, {14, 84, 364}, {16, 112, 576}, {18, 144, 860}, {20, 180, 1220}, {22, 220, 1676}};

    public static void main(String[] args) {
        pointsAndSigns();
        seeOthers();
        timeIsFull();
        lookAtFirst();
        lookBehindATelling();
        lookEdges();
        toldAtOrAhead();
        toldLatest();
        cellsAndFolds();
        linesAreWithin();
        rulesAndStripAside();
        pointsBelowN();
        fitsAllThatWasSeen();
        numbered();
        noSuchOrder();
        noSuchFold();
        ordersOthers();
        nextIsTheLeast();
        nextIsTheLowestOfLikeOnes();
        nextNone();
        nextOthers();
        DUE.end();
    }

    private static void pointsAndSigns() {
        DUE.sentence("SEEN: of a POINT (1 .. 11) 0 no crease, 1 VALLEY, 2 MOUNTAIN");
        int[] points = {1, 11};
        int time = 0;
        CreasedPaper x = new CreasedPaper(2);
        for (int point : points) {
            for (int sign = 0; sign <= 2; sign++) {
                time++;
                DUE.is("see(" + point + ", " + sign + ")", x.see(point, sign), time);
            }
        }
        // By one FOLD of twelve: at 1, at the others, never a MOUNTAIN.
        int[] due = {20, 2, 0};
        for (int sign = 0; sign <= 2; sign++) {
            CreasedPaper y = new CreasedPaper(2);
            y.see(1, sign);
            DUE.is("orders by 1 as " + sign, y.orders(12, 1, -1, 0), due[sign]);
            CreasedPaper z = new CreasedPaper(2);
            z.see(11, sign);
            DUE.is("orders by 11 as " + sign, z.orders(12, 1, -1, 0), due[sign]);
        }
    }

    private static void seeOthers() {
        DUE.sentence("SEEN: the TIME. NONE for others");
        CreasedPaper x = new CreasedPaper(40);
        x.see(3, 1);
        x.see(3, 0);
        x.look(1);
        String was = Whole.of(x);
        int[][] wrong = {{0, 1}, {-1, 1}, {12, 1}, {13, 1}, {1, -1}, {1, 3}, {0, 3}};
        for (int[] w : wrong) {
            DUE.is("see(" + w[0] + ", " + w[1] + ")", x.see(w[0], w[1]), -1);
        }
        for (int far : Acts.FAR) {
            DUE.is("see(" + far + ", 1)", x.see(far, 1), -1);
            DUE.is("see(1, " + far + ")", x.see(1, far), -1);
        }
        DUE.same("neither the time nor the look moved", Whole.of(x), was);
        DUE.is("the time goes on", x.see(1, 1), 3);
    }

    private static void timeIsFull() {
        DUE.sentence("TOLD: TIME is one more (100 at most). .. (NONE ..) if it is 100.");
        CreasedPaper x = new CreasedPaper(2);
        for (int i = 1; i <= 100; i++) {
            DUE.is("time", x.see(i % 11 + 1, i == 100 ? 1 : 0), i);
        }
        x.look(99);
        DUE.is("it is 100", x.see(1, 1), -1);
        DUE.is("time", x.about(5), 100);
        DUE.is("the look did not move", x.about(6), 99);
        DUE.is("the latest is there", x.look(100), true);
        DUE.is("it was point 2", x.orders(3, 1, 0, 0), 2);
        DUE.is("none beyond", x.look(101), false);
        x.back();
        DUE.is("no time again", x.about(5), 0);
        DUE.is("room again", x.see(1, 1), 1);
    }

    private static void lookAtFirst() {
        DUE.sentence("THE LOOK: a TIME; .. (at first .. the latest TIME)");
        CreasedPaper x = new CreasedPaper(2);
        DUE.is("at first", x.about(6), 0);
        DUE.is("nothing is told", x.orders(12, 1, -1, 0), 22);
    }

    private static void lookBehindATelling() {
        DUE.sentence("(.. and behind each telling, the latest TIME)");
        CreasedPaper x = new CreasedPaper(2);
        x.see(1, 1);
        DUE.is("the first", x.about(6), 1);
        x.look(0);
        DUE.is("told behind the latest, not behind the look", x.see(2, 0), 2);
        DUE.is("the second", x.about(6), 2);
        x.look(1);
        x.see(0, 0);
        DUE.is("a refused one is no telling", x.about(6), 1);
    }

    private static void lookEdges() {
        DUE.sentence("THE LOOK is at a TIME (0 to the latest): true. False for others.");
        CreasedPaper x = new CreasedPaper(2);
        DUE.is("0 of 0", x.look(0), true);
        DUE.is("1 of 0", x.look(1), false);
        DUE.is("-1", x.look(-1), false);
        x.see(1, 1);
        x.see(2, 1);
        DUE.is("3 of 2", x.look(3), false);
        DUE.is("as it was", x.about(6), 2);
        DUE.is("0 of 2", x.look(0), true);
        DUE.is("there", x.about(6), 0);
        DUE.is("2 of 2", x.look(2), true);
        DUE.is("there", x.about(6), 2);
        DUE.is("1 of 2", x.look(1), true);
        for (int far : Acts.FAR) {
            DUE.is("look " + far, x.look(far), false);
        }
        DUE.is("-1 of 2", x.look(-1), false);
        DUE.is("as it was", x.about(6), 1);
        DUE.is("the time does not move", x.about(5), 2);
    }

    private static void toldAtOrAhead() {
        DUE.sentence("of each POINT what was told latest at or ahead of it counts");
        CreasedPaper x = new CreasedPaper(2);
        x.see(1, 0);
        x.see(2, 0);
        x.see(3, 0);
        int[] due = {10, 8, 6, 4};
        for (int time = 0; time <= 3; time++) {
            x.look(time);
            DUE.is("orders at " + time, x.orders(6, 1, -1, 0), due[time]);
            DUE.is("next at " + time, x.next(6, 1), time + 1);
        }
    }

    private static void toldLatest() {
        DUE.sentence("what was told latest .. counts");
        CreasedPaper x = new CreasedPaper(2);
        x.see(1, 2);
        x.see(2, 0);
        x.see(1, 0);
        x.see(1, 1);
        int[] due = {4, 0, 0, 0, 2};
        int[] dueOfFour = {6, 0, 0, 2, 2};
        for (int time = 0; time <= 4; time++) {
            x.look(time);
            DUE.is("three cells at " + time, x.orders(3, 1, -1, 0), due[time]);
            DUE.is("four cells at " + time, x.orders(4, 1, -1, 0), dueOfFour[time]);
        }
    }

    private static void cellsAndFolds() {
        DUE.sentence("ORDERS of k FOLDS (1 .. 3) of a FLAT STRIP of N CELLS (2 .. 12 ..)");
        CreasedPaper x = new CreasedPaper(2);
        for (int n = 2; n <= 12; n++) {
            for (int k = 1; k <= 3; k++) {
                DUE.is("orders(" + n + ", " + k + ")", x.orders(n, k, -1, 0), ORDERS[n - 2][k - 1]);
            }
            DUE.is("no 0 folds of " + n, x.orders(n, 0, -1, 0), -1000);
            DUE.is("no 4 folds of " + n, x.orders(n, 4, -1, 0), -1000);
            DUE.is("no -1 folds of " + n, x.orders(n, -1, -1, 0), -1000);
        }
        for (int k = 1; k <= 3; k++) {
            for (int n : new int[] {-1, 0, 1, 13, 14, 40}) {
                DUE.is("no " + n + " cells", x.orders(n, k, -1, 0), -1000);
            }
        }
    }

    private static void linesAreWithin() {
        DUE.sentence("LINES 1 .. N - 1 (in places as they are then), that can be done one behind the other.");
        // RIGHT at 1 leaves lines below 1, LEFT at 2 a line 3 of three cells: neither counts.
        CreasedPaper x = new CreasedPaper(2);
        int[][] three = {{-1, 2}, {-1, -2}, {2, 1}, {2, -1}};
        DUE.is("of three", x.orders(3, 2, -1, 0), 4);
        for (int i = 0; i < 4; i++) {
            DUE.is("first of " + i, x.orders(3, 2, i, 0), three[i][0]);
            DUE.is("second of " + i, x.orders(3, 2, i, 1), three[i][1]);
        }
        DUE.is("all of three are folded then", x.orders(3, 3, -1, 0), 0);
        DUE.is("two have one line", x.orders(2, 2, -1, 0), 0);
    }

    private static void rulesAndStripAside() {
        DUE.sentence("(.. never creased; THICK and TORN aside)");
        CreasedPaper x = new CreasedPaper(12);
        x.rules(0, 0, 1, 1);
        DUE.is("thick", x.orders(12, 3, -1, 0), 1676);
        x.rules(0, 0, 1, 40);
        x.fold(6, true);
        x.fold(3, true);
        DUE.is("folded and torn", x.orders(12, 3, -1, 0), 1676);
        DUE.is("next", x.next(12, 3), 1);
        x.open();
        Acts.holdTo(x, Acts.LAST_TICK);
        String was = Whole.of(x);
        DUE.is("at the end of the clock", x.orders(12, 3, -1, 0), 1676);
        DUE.same("nothing changed", Whole.of(x), was);
    }

    private static void pointsBelowN() {
        DUE.sentence("(POINTS below N)");
        for (int n = 2; n <= 11; n++) {
            CreasedPaper x = new CreasedPaper(2);
            x.see(n, 2);
            DUE.is("point N is not of N cells", x.orders(n, 1, -1, 0), 2 * (n - 1));
            DUE.is("but of N + 1", x.orders(n + 1, 1, -1, 0), 0);
            CreasedPaper y = new CreasedPaper(2);
            y.see(n, 1);
            DUE.is("N + 1 cells are folded there", y.orders(n + 1, 1, 0, 0), n);
            DUE.is("or to the left", y.orders(n + 1, 1, 1, 0), -n);
            DUE.is("no other way", y.orders(n + 1, 1, -1, 0), 2);
        }
    }

    private static void fitsAllThatWasSeen() {
        DUE.sentence("They FIT, if the SIGNS that all have at the end are as SEEN");
        CreasedPaper x = new CreasedPaper(2);
        x.see(4, 1);
        DUE.is("one point", x.orders(8, 3, -1, 0), 156);
        x.see(2, 1);
        x.see(6, 2);
        DUE.is("three points", x.orders(8, 3, -1, 0), 22);
        int[][] some = {{0, -1, 4, 2}, {4, -2, 5, 4}, {10, 4, -2, 3}, {14, -4, 5, 4}, {21, 7, 4, -2}};
        for (int[] row : some) {
            for (int j = 0; j < 3; j++) {
                DUE.is("order " + row[0] + " fold " + j, x.orders(8, 3, row[0], j), row[j + 1]);
            }
        }
        DUE.is("no more", x.orders(8, 3, 22, 0), -1000);
        x.see(1, 2);
        x.see(2, 2);
        x.see(3, 2);
        DUE.is("none fits", x.orders(8, 3, -1, 0), 0);
        DUE.is("none fits", x.orders(8, 3, 0, 0), -1000);
    }

    private static void numbered() {
        DUE.sentence("Numbered by LINE, RIGHT ahead of LEFT, the first FOLD first.");
        CreasedPaper x = new CreasedPaper(2);
        for (int n = 4; n <= 12; n++) {
            int last = ORDERS[n - 2][2] - 1;
            int[] firstOrder = {-1, 2, 1};
            // 1 RIGHT leaves no line, 1 LEFT lines 2 ..; then 2 RIGHT brings line 1.
            int[] lastOrder = {n - 1, 2 - n, 1 - n};
            for (int j = 0; j < 3; j++) {
                DUE.is("first of " + n, x.orders(n, 3, 0, j), firstOrder[j]);
                DUE.is("last of " + n, x.orders(n, 3, last, j), lastOrder[j]);
            }
            DUE.is("no more of " + n, x.orders(n, 3, last + 1, 0), -1000);
        }
    }

    private static void noSuchOrder() {
        DUE.sentence("ORDERS that FIT: how many (i NONE), of the i-th the j-th FOLD .. -1000 if there is none such");
        CreasedPaper x = new CreasedPaper(2);
        DUE.is("the last", x.orders(12, 3, 1675, 0), 11);
        DUE.is("behind the last", x.orders(12, 3, 1676, 0), -1000);
        DUE.is("i -2", x.orders(12, 3, -2, 0), -1000);
        DUE.is("of none", x.orders(2, 2, 0, 0), -1000);
        for (int far : Acts.FAR) {
            DUE.is("i " + far, x.orders(4, 2, far, 0), -1000);
        }
    }

    private static void noSuchFold() {
        DUE.sentence("(.. the j-th FOLD ..) -1000 if there is none such");
        CreasedPaper x = new CreasedPaper(2);
        for (int k = 1; k <= 3; k++) {
            DUE.is("j -1 of " + k, x.orders(5, k, 0, -1), -1000);
            DUE.is("the last of " + k, x.orders(5, k, 0, k - 1), new int[] {1, 2, 1}[k - 1]);
            DUE.is("j " + k + " of " + k, x.orders(5, k, 0, k), -1000);
            for (int far : Acts.FAR) {
                DUE.is("j " + far, x.orders(5, k, 0, far), -1000);
            }
        }
    }

    private static void ordersOthers() {
        DUE.sentence("(-1000 if there is none such,) and for others.");
        CreasedPaper x = new CreasedPaper(2);
        for (int far : Acts.FAR) {
            DUE.is("n " + far, x.orders(far, 1, -1, 0), -1000);
            DUE.is("n " + far, x.orders(far, 1, 0, 0), -1000);
            DUE.is("k " + far, x.orders(4, far, -1, 0), -1000);
            DUE.is("k " + far, x.orders(4, far, 0, 0), -1000);
        }
    }

    private static int nextOf(int n, int k, int... pointsAndSigns) {
        CreasedPaper x = new CreasedPaper(2);
        for (int i = 0; i + 1 < pointsAndSigns.length; i += 2) {
            x.see(pointsAndSigns[i], pointsAndSigns[i + 1]);
        }
        return x.next(n, k);
    }

    private static void nextIsTheLeast() {
        DUE.sentence("NEXT LOOK: the POINT for which the greatest of how many ORDERS that FIT have no crease, VALLEY,"
                + " MOUNTAIN is least");
        // Of 12: 8 and 4, then 6, 4 and 2, then 8 and 4.
        DUE.is("the middle one of three", nextOf(5, 2, 1, 1), 3);
        DUE.is("mountains count", nextOf(6, 3, 1, 2), 4);
        DUE.is("far on", nextOf(12, 3, 11, 2), 7);
        DUE.is("in a few", nextOf(6, 3, 1, 0, 2, 0), 3);
        DUE.is("between both ends", nextOf(12, 3, 1, 2, 11, 2), 3);
        DUE.is("not the last", nextOf(8, 3, 4, 1, 2, 1, 6, 2), 5);
    }

    private static void nextIsTheLowestOfLikeOnes() {
        DUE.sentence("of like ones the lowest");
        for (int n = 3; n <= 12; n++) {
            DUE.is("all alike of " + n, nextOf(n, 1), 1);
        }
        DUE.is("2 and 6 are alike", nextOf(8, 3, 4, 1), 2);
        DUE.is("2 and 10 are alike", nextOf(12, 3, 6, 1), 2);
        DUE.is("1 is told", nextOf(12, 1, 1, 0), 2);
        DUE.is("1 to 9 are told", nextOf(12, 1, 1, 0, 2, 0, 3, 0, 4, 0, 5, 0, 6, 0, 7, 0, 8, 0, 9, 0), 10);
    }

    private static void nextNone() {
        DUE.sentence("none, if no ORDER FITS, or that is all of them.");
        DUE.is("no order of two", nextOf(2, 2), -1);
        DUE.is("no order of three", nextOf(3, 3), -1);
        DUE.is("none fits", nextOf(12, 1, 11, 2), -1);
        DUE.is("two alike", nextOf(2, 1), -1);
        DUE.is("four alike", nextOf(3, 2), -1);
        DUE.is("two alike of twelve", nextOf(12, 1, 11, 1), -1);
        DUE.is("but not of eleven", nextOf(11, 1, 11, 1), 1);
        DUE.is("1 to 10 are told", nextOf(12, 1, 1, 0, 2, 0, 3, 0, 4, 0, 5, 0, 6, 0, 7, 0, 8, 0, 9, 0, 10, 0), -1);
    }

    private static void nextOthers() {
        DUE.sentence("NEXT LOOK. NONE: none, and for others.");
        CreasedPaper x = new CreasedPaper(2);
        int[][] wrong = {{1, 1}, {0, 1}, {-1, 1}, {13, 1}, {4, 0}, {4, -1}, {4, 4}, {1, 0}, {13, 4}};
        for (int[] w : wrong) {
            DUE.is("next(" + w[0] + ", " + w[1] + ")", x.next(w[0], w[1]), -1);
        }
        for (int far : Acts.FAR) {
            DUE.is("next(" + far + ", 1)", x.next(far, 1), -1);
            DUE.is("next(4, " + far + ")", x.next(4, far), -1);
        }
        DUE.is("the greatest", x.next(12, 3), 1);
    }
}
