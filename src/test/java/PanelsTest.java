import java.util.ArrayList;
import java.util.List;

/** Promise 19: all ways to fold a row of panels flat, against all orders of the panels. */
public final class PanelsTest {
    private static final Due DUE = new Due("PanelsTest");

    public static void main(String[] args) {
        for (int n = 2; n <= 6; n++) {
            List<int[]> all = flatOrders(n);
            for (int signs = 0; signs < power(n - 1); signs++) {
                checkWays(n, signs, all);
            }
        }
        List<int[]> eight = flatOrders(8);
        DUE.is("all of eight", eight.size(), 1392);
        int[] some = {0, 1, 2, 728, 1093, 2186, 1500};
        for (int signs : some) {
            checkWays(8, signs, eight);
        }
        checkWays(7, 0, flatOrders(7));
        waysOfNothing();
        DUE.end();
    }

    private static int power(int n) {
        int power = 1;
        for (int i = 0; i < n; i++) {
            power *= 3;
        }
        return power;
    }

    private static void checkWays(int n, int signs, List<int[]> all) {
        CreasedPaper x = new CreasedPaper(2);
        int count = 0;
        for (int[] order : all) {
            if (hasSigns(order, signs)) {
                if (n < 6 || count % 7 == 0) {
                    for (int layer = 0; layer < n; layer++) {
                        DUE.is("way " + n + " " + signs + " " + count + " " + layer,
                                x.ways(n, signs, count, layer), order[layer]);
                    }
                }
                count++;
            }
        }
        DUE.is("ways of " + n + " by " + signs, x.ways(n, signs, -1, 0), count);
        DUE.is("none behind the last", x.ways(n, signs, count, 0), -1);
    }

    private static boolean hasSigns(int[] order, int signs) {
        int[] layer = layersOf(order);
        int left = signs;
        for (int c = 0; c + 1 < order.length; c++) {
            int sign = left % 3;
            left /= 3;
            boolean above = layer[c + 1] > layer[c];
            boolean faceUp = c % 2 == 0;
            int made = above == faceUp ? 1 : 2;
            if (sign != 0 && sign != made) {
                return false;
            }
        }
        return true;
    }

    private static int[] layersOf(int[] order) {
        int[] layer = new int[order.length];
        for (int i = 0; i < order.length; i++) {
            layer[order[i]] = i;
        }
        return layer;
    }

    private static List<int[]> flatOrders(int n) {
        List<int[]> found = new ArrayList<>();
        permute(new int[n], 0, 0, found);
        return found;
    }

    private static void permute(int[] order, int filled, int used, List<int[]> found) {
        if (filled == order.length) {
            if (isFlat(order)) {
                found.add(order.clone());
            }
            return;
        }
        for (int panel = 0; panel < order.length; panel++) {
            if ((used >> panel & 1) == 0) {
                order[filled] = panel;
                permute(order, filled + 1, used | 1 << panel, found);
            }
        }
    }

    private static boolean isFlat(int[] order) {
        int[] layer = layersOf(order);
        for (int c = 0; c + 1 < order.length; c++) {
            for (int d = c + 2; d + 1 < order.length; d += 2) {
                int low = Math.min(layer[c], layer[c + 1]);
                int high = Math.max(layer[c], layer[c + 1]);
                boolean one = layer[d] > low && layer[d] < high;
                boolean other = layer[d + 1] > low && layer[d + 1] < high;
                if (one != other) {
                    return false;
                }
            }
        }
        return true;
    }

    private static void waysOfNothing() {
        CreasedPaper x = new CreasedPaper(2);
        int[][] wrong = {{1, 0, -1, 0}, {9, 0, -1, 0}, {0, 0, -1, 0}, {-1, 0, -1, 0}, {3, -1, -1, 0},
            {3, 9, -1, 0}, {8, 2187, -1, 0}, {3, 0, -2, 0}, {3, 0, 0, -1}, {3, 0, 0, 3}, {3, 0, 6, 0},
            {Integer.MAX_VALUE, 0, -1, 0}, {Integer.MIN_VALUE, 0, -1, 0}, {3, Integer.MAX_VALUE, -1, 0},
            {3, Integer.MIN_VALUE, -1, 0}, {3, 0, Integer.MAX_VALUE, 0}, {3, 0, Integer.MIN_VALUE, 0},
            {3, 0, 0, Integer.MAX_VALUE}, {3, 0, 0, Integer.MIN_VALUE}};
        for (int[] w : wrong) {
            DUE.is("wrong ways " + w[0] + " " + w[1] + " " + w[2] + " " + w[3],
                    x.ways(w[0], w[1], w[2], w[3]), -1);
        }
        DUE.is("all signs told", x.ways(8, 2186, -1, 0) > 0, true);
        DUE.is("the layer is not asked for", x.ways(3, 0, -1, 99), 6);
        DUE.is("again the same", x.ways(3, 0, 5, 0), 2);
        DUE.is("again the same", x.ways(3, 0, 5, 0), 2);
    }
}
