/**
 * Promise 19: WAYS to fold PANELS flat. Each sentence of the document that names a boundary case
 * has a test of its own.
 */
public final class PanelsEdgesTest {
    private static final Due DUE = new Due("PanelsEdgesTest");
    private static final int[] WAYS = {0, 0, 2, 6, 16, 50, 144, 462, 1392};
    private static final int[] SIGNS = {0, 1, 3, 9, 27, 81, 243, 729, 2187};

    public static void main(String[] args) {
        howManyPanels();
        signsOfCreases();
        firstSignIsLowest();
        doNotCross();
        sidesAreAlone();
        valleysAndMountains();
        noSuchWay();
        noSuchLayer();
        others();
        DUE.end();
    }

    private static void are(int n, int signs, int[]... ways) {
        CreasedPaper x = new CreasedPaper(2);
        DUE.is("ways of " + n + " by " + signs, x.ways(n, signs, -1, 0), ways.length);
        for (int i = 0; i < ways.length; i++) {
            for (int layer = 0; layer < n; layer++) {
                DUE.is("ways(" + n + ", " + signs + ", " + i + ", " + layer + ")", x.ways(n, signs, i, layer),
                        ways[i][layer]);
            }
        }
        DUE.is("none behind them", x.ways(n, signs, ways.length, 0), -1);
    }

    private static void howManyPanels() {
        DUE.sentence("PANELS: n in a row (2 .. 8)");
        CreasedPaper x = new CreasedPaper(2);
        for (int n = 2; n <= 8; n++) {
            DUE.is("all ways of " + n, x.ways(n, 0, -1, 0), WAYS[n]);
        }
        for (int n : new int[] {-8, -2, -1, 0, 1, 9, 10, 16}) {
            DUE.is("no " + n, x.ways(n, 0, -1, 0), -1);
            DUE.is("no " + n, x.ways(n, 0, 0, 0), -1);
        }
        are(2, 0, new int[] {0, 1}, new int[] {1, 0});
    }

    private static void signsOfCreases() {
        DUE.sentence("with SIGNS of the n - 1 creases between (base 3 digits ..)");
        CreasedPaper x = new CreasedPaper(2);
        for (int n = 2; n <= 8; n++) {
            int beyond = SIGNS[n];
            DUE.is("all mountains of " + n, x.ways(n, beyond - 1, -1, 0) > 0, true);
            DUE.is("a digit too many for " + n, x.ways(n, beyond, -1, 0), -1);
            DUE.is("a digit too many for " + n, x.ways(n, beyond, 0, 0), -1);
            DUE.is("a digit too many for " + n, x.ways(n, 2 * beyond, -1, 0), -1);
            DUE.is("below 0 for " + n, x.ways(n, -1, -1, 0), -1);
            DUE.is("below 0 for " + n, x.ways(n, -beyond, -1, 0), -1);
        }
    }

    private static void firstSignIsLowest() {
        DUE.sentence("(.. the first one lowest: 0 any, 1 VALLEY, 2 MOUNTAIN)");
        are(3, 0, new int[] {0, 1, 2}, new int[] {0, 2, 1}, new int[] {1, 0, 2}, new int[] {1, 2, 0},
                new int[] {2, 0, 1}, new int[] {2, 1, 0});
        are(3, 1, new int[] {0, 1, 2}, new int[] {0, 2, 1}, new int[] {2, 0, 1});
        are(3, 2, new int[] {1, 0, 2}, new int[] {1, 2, 0}, new int[] {2, 1, 0});
        are(3, 3, new int[] {0, 2, 1}, new int[] {2, 0, 1}, new int[] {2, 1, 0});
        are(3, 6, new int[] {0, 1, 2}, new int[] {1, 0, 2}, new int[] {1, 2, 0});
        are(3, 7, new int[] {0, 1, 2});
        are(3, 5, new int[] {2, 1, 0});
        are(3, 8, new int[] {1, 0, 2}, new int[] {1, 2, 0});
        are(3, 4, new int[] {0, 2, 1}, new int[] {2, 0, 1});
    }

    private static void doNotCross() {
        DUE.sentence("two creases of one side (..) don't cross: their two PANELS each don't lie by turns (a, b, a, b).");
        // Of 24 orders those go in which one of 0, 1 lies between 2 and 3 and the other one doesn't.
        are(4, 0, new int[] {0, 1, 2, 3}, new int[] {0, 1, 3, 2}, new int[] {0, 2, 3, 1}, new int[] {0, 3, 2, 1},
                new int[] {1, 0, 2, 3}, new int[] {1, 0, 3, 2}, new int[] {1, 2, 3, 0}, new int[] {1, 3, 2, 0},
                new int[] {2, 0, 1, 3}, new int[] {2, 1, 0, 3}, new int[] {2, 3, 0, 1}, new int[] {2, 3, 1, 0},
                new int[] {3, 0, 1, 2}, new int[] {3, 1, 0, 2}, new int[] {3, 2, 0, 1}, new int[] {3, 2, 1, 0});
        DUE.is("on the left 1, 2 and 3, 4 would lie by turns", hasWay(5, 0, 2, 3, 1, 4), false);
        DUE.is("on the left 3, 4 lie around 1, 2", hasWay(5, 0, 3, 2, 1, 4), true);
    }

    private static void sidesAreAlone() {
        DUE.sentence("(those behind PANEL 0, 2, 4 .. are on the right, behind 1, 3 .. on the left)");
        DUE.is("0, 1 on the right and 3, 4 on the left may lie by turns", hasWay(5, 0, 3, 2, 1, 4), true);
        DUE.is("0, 1 and 4, 5, both on the right, may not", hasWay(6, 0, 4, 1, 5, 2, 3), false);
        DUE.is("1, 2 and 5, 6, both on the left, may not", hasWay(7, 0, 1, 5, 2, 6, 3, 4), false);
    }

    private static boolean hasWay(int n, int... order) {
        int count = new CreasedPaper(2).ways(n, 0, -1, 0);
        for (int i = 0; i < count; i++) {
            CreasedPaper x = new CreasedPaper(2);
            boolean same = true;
            for (int layer = 0; layer < n && same; layer++) {
                same = x.ways(n, 0, i, layer) == order[layer];
            }
            if (same) {
                return true;
            }
        }
        return false;
    }

    private static void valleysAndMountains() {
        DUE.sentence("VALLEY: the next PANEL is above one that is FACE UP, below one that is FACE DOWN; MOUNTAIN the"
                + " other way round.");
        are(2, 1, new int[] {0, 1});
        are(2, 2, new int[] {1, 0});
        // 1, 2, 1, 2, .. is a stair upwards, 2, 1, 2, 1, .. one downwards.
        are(8, 1 + 6 + 9 + 54 + 81 + 486 + 729, new int[] {0, 1, 2, 3, 4, 5, 6, 7});
        are(8, 2 + 3 + 18 + 27 + 162 + 243 + 1458, new int[] {7, 6, 5, 4, 3, 2, 1, 0});
    }

    private static void noSuchWay() {
        DUE.sentence("WAYS of n PANELS by SIGNS: how many (i NONE), the PANEL in a LAYER of the i-th. NONE if there is"
                + " none such");
        for (int n = 2; n <= 8; n++) {
            CreasedPaper x = new CreasedPaper(2);
            DUE.is("the first begins with 0", x.ways(n, 0, 0, 0), 0);
            DUE.is("the last begins with the last", x.ways(n, 0, WAYS[n] - 1, 0), n - 1);
            DUE.is("the last ends with 0", x.ways(n, 0, WAYS[n] - 1, n - 1), 0);
            DUE.is("none behind the last", x.ways(n, 0, WAYS[n], 0), -1);
            DUE.is("i -2", x.ways(n, 0, -2, 0), -1);
            for (int far : Acts.FAR) {
                DUE.is("i " + far, x.ways(n, 0, far, 0), -1);
            }
        }
    }

    private static void noSuchLayer() {
        DUE.sentence("(.. the PANEL in a LAYER ..) NONE if there is none such");
        for (int n = 2; n <= 8; n++) {
            CreasedPaper x = new CreasedPaper(2);
            DUE.is("layer -1", x.ways(n, 0, 0, -1), -1);
            DUE.is("layer 0", x.ways(n, 0, 0, 0), 0);
            DUE.is("the highest layer", x.ways(n, 0, 0, n - 1) > 0, true);
            DUE.is("layer n", x.ways(n, 0, 0, n), -1);
            for (int far : Acts.FAR) {
                DUE.is("layer " + far, x.ways(n, 0, 0, far), -1);
            }
        }
    }

    private static void others() {
        DUE.sentence("(NONE if there is none such,) and for others.");
        CreasedPaper x = new CreasedPaper(2);
        for (int far : Acts.FAR) {
            DUE.is("n " + far, x.ways(far, 0, -1, 0), -1);
            DUE.is("signs " + far, x.ways(8, far, -1, 0), -1);
            DUE.is("signs " + far, x.ways(2, far, 0, 0), -1);
        }
        DUE.is("as ever", x.ways(3, 0, -1, 0), 6);
    }
}
