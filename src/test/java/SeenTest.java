/** Promises 20 to 23: what was seen, the look, the orders that fit it, and where to look next. */
public final class SeenTest {
    private static final Due DUE = new Due("SeenTest");

    public static void main(String[] args) {
        tellings();
        looks();
        ordersOfOneFold();
        ordersFit();
        ordersDoNotHangOnTheStrip();
        ordersOfNothing();
        nextLooks();
        DUE.end();
    }

    private static void tellings() {
        CreasedPaper x = new CreasedPaper(2);
        int[][] wrong = {{0, 1}, {12, 1}, {-1, 1}, {1, -1}, {1, 3}, {Integer.MAX_VALUE, 1},
            {1, Integer.MIN_VALUE}};
        for (int[] w : wrong) {
            DUE.is("wrong see", x.see(w[0], w[1]), -1);
        }
        DUE.is("no time went", x.about(5), 0);
        for (int i = 1; i <= 100; i++) {
            DUE.is("time", x.see(1 + i % 11, i % 3), i);
            DUE.is("the look goes along", x.about(6), i);
        }
        DUE.is("100 is the last", x.see(1, 1), -1);
        DUE.is("time", x.about(5), 100);
    }

    private static void looks() {
        CreasedPaper x = new CreasedPaper(2);
        DUE.is("at first", x.about(6), 0);
        DUE.is("none yet", x.look(1), false);
        DUE.is("at 0", x.look(0), true);
        x.see(1, 1);
        x.see(1, 2);
        x.see(1, 0);
        for (int time = 0; time < 4; time++) {
            DUE.is("look", x.look(time), true);
            DUE.is("the look", x.about(6), time);
            DUE.is("orders at " + time, x.orders(2, 1, -1, 0), new int[] {2, 2, 0, 0}[time]);
            DUE.is("orders at " + time, x.orders(3, 1, -1, 0), new int[] {4, 2, 0, 2}[time]);
        }
        DUE.is("below 0", x.look(-1), false);
        DUE.is("beyond", x.look(4), false);
        DUE.is("not moved", x.about(6), 3);
        x.look(1);
        DUE.is("behind the latest, not the look", x.see(2, 1), 4);
        DUE.is("the look is there", x.about(6), 4);
        DUE.is("what was told stays", x.orders(3, 1, -1, 0), 2);
        x.look(1);
        DUE.is("as it was known", x.orders(3, 1, 0, 0), 1);
    }

    private static void ordersOfOneFold() {
        CreasedPaper x = new CreasedPaper(40);
        for (int n = 2; n <= 12; n++) {
            DUE.is("one fold of " + n, x.orders(n, 1, -1, 0), 2 * (n - 1));
            for (int i = 0; i < 2 * (n - 1); i++) {
                int line = 1 + i / 2;
                DUE.is("the " + i + "-th", x.orders(n, 1, i, 0), i % 2 == 0 ? line : -line);
            }
        }
        DUE.is("none behind the last", x.orders(12, 1, 22, 0), -1000);
    }

    private static void ordersFit() {
        CreasedPaper x = new CreasedPaper(2);
        x.see(1, 1);
        x.see(2, 1);
        x.see(3, 2);
        DUE.is("to the middle first", x.orders(4, 2, -1, 0), 2);
        DUE.is("2 right", x.orders(4, 2, 0, 0), 2);
        DUE.is("1 right", x.orders(4, 2, 0, 1), 1);
        DUE.is("2 right", x.orders(4, 2, 1, 0), 2);
        DUE.is("1 left", x.orders(4, 2, 1, 1), -1);
        x.see(4, 0);
        DUE.is("points below n alone", x.orders(4, 2, -1, 0), 2);
        x.see(4, 1);
        DUE.is("points below n alone", x.orders(4, 2, -1, 0), 2);
        DUE.is("of five", x.orders(5, 1, -1, 0), 0);
        DUE.is("of five", x.orders(5, 1, 0, 0), -1000);
    }

    private static void ordersDoNotHangOnTheStrip() {
        CreasedPaper x = new CreasedPaper(2);
        int free = x.orders(12, 3, -1, 0);
        DUE.is("many", free > 1000, true);
        x.rules(0, 0, 1, 1);
        DUE.is("thick and torn aside", x.orders(12, 3, -1, 0), free);
        x.rules(0, 0, 1, 40);
        x.fold(1, true);
        DUE.is("creases aside", x.orders(12, 3, -1, 0), free);
        DUE.is("they leave the strip as it was", x.about(10), 0);
        DUE.is("and its clock", x.about(1), 1);
    }

    private static void ordersOfNothing() {
        CreasedPaper x = new CreasedPaper(2);
        int[][] wrong = {{1, 1, -1, 0}, {13, 1, -1, 0}, {4, 0, -1, 0}, {4, 4, -1, 0}, {4, 2, -2, 0},
            {4, 2, 12, 0}, {4, 2, 0, -1}, {4, 2, 0, 2}, {Integer.MAX_VALUE, 1, -1, 0},
            {Integer.MIN_VALUE, 1, -1, 0}, {4, Integer.MAX_VALUE, -1, 0}, {4, Integer.MIN_VALUE, -1, 0},
            {4, 2, Integer.MAX_VALUE, 0}, {4, 2, Integer.MIN_VALUE, 0}, {4, 2, 0, Integer.MAX_VALUE},
            {4, 2, 0, Integer.MIN_VALUE}};
        for (int[] w : wrong) {
            DUE.is("wrong orders " + w[0] + " " + w[1] + " " + w[2] + " " + w[3],
                    x.orders(w[0], w[1], w[2], w[3]), -1000);
        }
        DUE.is("two of two can't be", x.orders(2, 2, -1, 0), 0);
        DUE.is("the fold is not asked for", x.orders(2, 1, -1, 77), 2);
        int[][] others = {{1, 1}, {13, 1}, {4, 0}, {4, 4}, {Integer.MIN_VALUE, 1}, {4, Integer.MAX_VALUE}};
        for (int[] w : others) {
            DUE.is("wrong next", x.next(w[0], w[1]), -1);
        }
    }

    private static void nextLooks() {
        CreasedPaper x = new CreasedPaper(2);
        DUE.is("one fold of two: all alike", x.next(2, 1), -1);
        DUE.is("no order", x.next(2, 2), -1);
        DUE.is("of like ones the lowest", x.next(3, 1), 1);
        DUE.is("of four", x.next(4, 1), 1);
        x.see(1, 0);
        DUE.is("not the one that was seen", x.next(4, 1), 2);
        x.see(2, 1);
        DUE.is("all alike", x.next(4, 1), -1);
        DUE.is("but two", x.orders(4, 1, -1, 0), 2);
        x.see(3, 1);
        DUE.is("none fits", x.next(4, 1), -1);
        x.look(0);
        DUE.is("as it was known", x.next(4, 1), 1);
        x.look(1);
        DUE.is("as it was known", x.next(4, 1), 2);
    }
}
