/** Promises 1 to 9: the strip, its rules, folds, holds and openings, its cells and creases. */
public final class StripTest {
    private static final Due DUE = new Due("StripTest");

    public static void main(String[] args) {
        newObject();
        rulesAreChecked();
        foldsTurnAndPile();
        foldsGoBelowPlaceZero();
        refusalsComeInOrder();
        thickLooksAtEveryPlace();
        wearGrowsWithLayers();
        signsAreThoseOfTheLastFold();
        restsCreepAndEase();
        holdsAndTheClock();
        openings();
        questionsAboutNothing();
        DUE.end();
    }

    private static void newObject() {
        int[][] lengths = {{Integer.MIN_VALUE, 2}, {-1, 2}, {0, 2}, {1, 2}, {2, 2}, {3, 3}, {39, 39},
            {40, 40}, {41, 40}, {Integer.MAX_VALUE, 40}};
        for (int[] row : lengths) {
            CreasedPaper x = new CreasedPaper(row[0]);
            DUE.is("length " + row[0], x.about(0), row[1]);
            DUE.is("last place of " + row[0], x.about(10), row[1] - 1);
            DUE.is("first place of " + row[0], x.about(9), 0);
            for (int u = 0; u < row[1]; u++) {
                DUE.is("place", x.cell(u, 0), u);
                DUE.is("layer", x.cell(u, 1), 0);
                DUE.is("face", x.cell(u, 2), 1);
            }
            for (int p = 1; p < row[1]; p++) {
                int[] never = {0, 0, 0, -1, -1, 0, 0};
                for (int what = 0; what < never.length; what++) {
                    DUE.is("never creased " + what, x.crease(p, what), never[what]);
                }
            }
        }
        CreasedPaper x = new CreasedPaper(5);
        x.rules(1, 2, 3, 4);
        x.fold(2, true);
        x.sheet(1, 1, 1, 1, 1);
        x.see(1, 1);
        DUE.is("back to the new object", x.back(), 0);
        DUE.is("flat again", x.about(10), 4);
        DUE.is("no crease", x.about(3), 0);
        DUE.is("no sheet", x.about(7), 0);
        DUE.is("no time", x.about(5), 0);
        x.fold(2, true);
        DUE.is("first rules again", x.crease(2, 1), 450);
    }

    private static void rulesAreChecked() {
        CreasedPaper x = new CreasedPaper(4);
        int[][] wrong = {{-1, 0, 1, 1}, {1001, 0, 1, 1}, {0, -1, 1, 1}, {0, 1001, 1, 1}, {0, 0, 0, 1},
            {0, 0, 1001, 1}, {0, 0, 1, 0}, {0, 0, 1, 41}, {Integer.MIN_VALUE, 0, 1, 1},
            {0, 0, Integer.MAX_VALUE, 1}};
        for (int[] w : wrong) {
            DUE.is("wrong rules", x.rules(w[0], w[1], w[2], w[3]), false);
        }
        DUE.is("nothing changed by them", x.fold(2, true), 1);
        DUE.is("nor the creep", x.crease(2, 1), 450);
        DUE.is("not torn", x.crease(2, 5), 0);
        DUE.is("least", x.rules(0, 0, 1, 1), true);
        DUE.is("greatest", x.rules(1000, 1000, 1000, 40), true);
        x.hold(1);
        DUE.is("creep 1000", x.crease(2, 1), 1800);
        x.open();
        DUE.is("ease 1000", x.crease(2, 1), 0);
    }

    private static void foldsTurnAndPile() {
        CreasedPaper x = new CreasedPaper(6);
        DUE.is("left at 2", x.fold(2, false), 1);
        int[][] cells = {{3, 1, 0}, {2, 1, 0}, {2, 0, 1}, {3, 0, 1}, {4, 0, 1}, {5, 0, 1}};
        checkCells(x, cells);
        DUE.is("right at 4", x.fold(4, true), 1);
        int[][] then = {{3, 1, 0}, {2, 1, 0}, {2, 0, 1}, {3, 0, 1}, {3, 2, 0}, {2, 2, 0}};
        checkCells(x, then);
        DUE.is("right at 3", x.fold(3, true), 3);
        int[][] last = {{2, 4, 1}, {2, 1, 0}, {2, 0, 1}, {2, 5, 0}, {2, 3, 1}, {2, 2, 0}};
        checkCells(x, last);
        DUE.is("six layers", x.layers(2), 6);
        DUE.is("at the top", x.at(2, 5), 3);
        DUE.is("sign 1", x.crease(1, 0), 2);
        DUE.is("sign 2", x.crease(2, 0), 1);
        DUE.is("sign 3", x.crease(3, 0), 1);
        DUE.is("sign 4", x.crease(4, 0), 1);
        DUE.is("sign 5", x.crease(5, 0), 2);
        DUE.is("lowest", x.about(9), 2);
        DUE.is("highest", x.about(10), 2);
    }

    private static void checkCells(CreasedPaper x, int[][] cells) {
        for (int u = 0; u < cells.length; u++) {
            for (int what = 0; what < 3; what++) {
                DUE.is("cell(" + u + ", " + what + ")", x.cell(u, what), cells[u][what]);
            }
            DUE.is("at", x.at(cells[u][0], cells[u][1]), u);
        }
    }

    private static void foldsGoBelowPlaceZero() {
        CreasedPaper x = new CreasedPaper(40);
        int low = 0;
        int high = 39;
        while (high > low) {
            DUE.is("right behind the lowest", x.fold(low + 1, true) > 0, true);
            int newLow = 2 * (low + 1) - 1 - high;
            high = low;
            low = Math.min(newLow, high);
            DUE.is("lowest place", x.about(9), low);
            DUE.is("highest place", x.about(10), high);
        }
        DUE.is("all in one", x.layers(low), 40);
        DUE.is("far below", low, -741);
    }

    private static void refusalsComeInOrder() {
        CreasedPaper x = new CreasedPaper(4);
        int[] lines = {0, -1, 4, 5, Integer.MIN_VALUE, Integer.MAX_VALUE, 1 << 30, -(1 << 30)};
        for (int line : lines) {
            DUE.is("no cells at " + line, x.fold(line, true), -1);
            DUE.is("no cells at " + line, x.fold(line, false), -1);
        }
        x.rules(0, 0, 1, 40);
        DUE.is("tears", x.fold(2, true), 1);
        DUE.is("torn", x.crease(2, 5), 1);
        x.open();
        DUE.is("torn stays", x.rules(0, 0, 1000, 40), true);
        DUE.is("torn stays", x.crease(2, 5), 1);
        DUE.is("torn jams", x.fold(2, true), -3);
        DUE.is("torn jams", x.fold(2, false), -3);
        x.rules(0, 0, 1000, 1);
        DUE.is("thick ahead of torn", x.fold(2, true), -2);
        DUE.is("cells ahead of thick", x.fold(4, true), -1);
        x.rules(0, 0, 1000, 40);
        int clock = x.about(1);
        while (clock + 1000 <= 100000) {
            clock = x.hold(1000);
        }
        x.hold(100000 - clock);
        DUE.is("the end", x.about(1), 100000);
        DUE.is("cells ahead of the clock", x.fold(0, true), -1);
        DUE.is("torn ahead of the clock", x.fold(2, true), -3);
        int acts = x.about(2);
        DUE.is("the clock", x.fold(1, true), -4);
        DUE.is("nothing is done", x.crease(1, 0), 0);
        DUE.is("nothing is done", x.about(2), acts);
        DUE.is("flat still", x.about(10), 3);
        x.rules(0, 0, 1000, 1);
        DUE.is("thick ahead of the clock", x.fold(1, true), -2);
    }

    private static void thickLooksAtEveryPlace() {
        CreasedPaper x = new CreasedPaper(8);
        x.rules(0, 0, 100, 2);
        DUE.is("two layers", x.fold(4, true), 1);
        DUE.is("four layers", x.fold(2, true), -2);
        x.rules(0, 0, 100, 4);
        DUE.is("four layers now", x.fold(2, true), 2);
        x.open();
        DUE.is("one over", x.fold(1, false), 1);
        DUE.is("two over", x.fold(2, false), 1);
        DUE.is("three layers", x.layers(2), 3);
        x.rules(0, 0, 100, 2);
        // PLACES 6 and 7 would have two and none, but PLACE 2 has three and stays.
        DUE.is("a place that stays counts too", x.fold(7, true), -2);
        x.rules(0, 0, 100, 3);
        DUE.is("three are not more than three", x.fold(7, true), 1);
        thickLooksAtTheMirror();
    }

    /** Six cells by LEFT at 1 and RIGHT at 5: PLACES 1 and 4 have two LAYERS, 2 and 3 one. */
    private static void thickLooksAtTheMirror() {
        int[] line = {2, 3, 4};
        int[] tallest = {3, 4, 3};
        for (int i = 0; i < 3; i++) {
            CreasedPaper x = new CreasedPaper(6);
            x.fold(1, false);
            x.fold(5, true);
            x.rules(0, 0, 100, tallest[i] - 1);
            DUE.is("right would be " + tallest[i], x.fold(line[i], true), -2);
            DUE.is("left would be " + tallest[i], x.fold(line[i], false), -2);
            x.rules(0, 0, 100, tallest[i]);
            x.image();
            DUE.is("right", x.fold(line[i], true) > 0, true);
            x.back();
            DUE.is("left", x.fold(line[i], false) > 0, true);
        }
    }

    private static void wearGrowsWithLayers() {
        CreasedPaper x = new CreasedPaper(32);
        x.fold(16, true);
        x.fold(8, true);
        x.fold(4, true);
        DUE.is("eight layers", x.layers(0), 8);
        DUE.is("through eight", x.fold(2, true), 8);
        DUE.is("wear of two", x.crease(2, 2), 2);
        DUE.is("wear of one", x.crease(4, 2), 1);
        DUE.is("through sixteen", x.fold(1, true), 16);
        DUE.is("wear of three", x.crease(1, 2), 3);
        CreasedPaper y = new CreasedPaper(18);
        for (int line = 1; line <= 7; line++) {
            y.fold(line, false);
        }
        DUE.is("eight at 7", y.layers(7), 8);
        DUE.is("one at 9", y.layers(9), 1);
        y.fold(8, true);
        DUE.is("the greater of both", y.crease(8, 2), 2);
        CreasedPaper z = new CreasedPaper(18);
        for (int line = 17; line >= 11; line--) {
            z.fold(line, true);
        }
        DUE.is("eight at 10", z.layers(10), 8);
        z.rules(100, 10, 2, 40);
        z.fold(10, true);
        DUE.is("the greater of both", z.crease(10, 2), 2);
        DUE.is("torn at strong", z.crease(10, 5), 1);
        DUE.is("torn points", z.about(4), 1);
        DUE.is("others keep", z.crease(11, 5), 0);
        CreasedPaper seven = new CreasedPaper(18);
        for (int line = 1; line <= 6; line++) {
            seven.fold(line, false);
        }
        seven.fold(7, false);
        DUE.is("seven are cut to none", seven.crease(7, 2), 1);
        CreasedPaper all = new CreasedPaper(40);
        for (int line = 1; line <= 39; line++) {
            all.fold(line, false);
            DUE.is("through " + line, all.crease(line, 2), 1 + line / 8);
        }
        wearToTheFirstStrong();
    }

    private static void wearToTheFirstStrong() {
        CreasedPaper x = new CreasedPaper(2);
        for (int wear = 1; wear < 100; wear++) {
            x.fold(1, true);
            x.open();
        }
        DUE.is("99", x.crease(1, 2), 99);
        DUE.is("not torn", x.crease(1, 5), 0);
        x.rules(100, 10, 50, 40);
        DUE.is("not by rules alone", x.crease(1, 5), 0);
        x.rules(100, 10, 101, 40);
        x.back();
        for (int wear = 1; wear < 100; wear++) {
            x.fold(1, true);
            x.open();
        }
        DUE.is("the hundredth", x.fold(1, true), 1);
        DUE.is("torn", x.crease(1, 5), 1);
        x.open();
        DUE.is("no more", x.fold(1, true), -3);
    }

    private static void signsAreThoseOfTheLastFold() {
        CreasedPaper x = new CreasedPaper(4);
        x.fold(2, true);
        x.fold(1, true);
        DUE.is("mountain", x.crease(3, 0), 2);
        DUE.is("valley", x.crease(1, 0), 1);
        x.open();
        DUE.is("creases stay", x.crease(3, 0), 2);
        x.fold(3, true);
        DUE.is("the latest sign", x.crease(3, 0), 1);
        DUE.is("its tick", x.crease(3, 3), 3);
        DUE.is("its act", x.crease(3, 4), 3);
        DUE.is("the other's tick", x.crease(1, 3), 1);
        DUE.is("the other's act", x.crease(1, 4), 1);
        DUE.is("wear", x.crease(3, 2), 2);
        DUE.is("folded", x.crease(3, 6), 1);
        DUE.is("not folded", x.crease(2, 6), 0);
    }

    private static void restsCreepAndEase() {
        CreasedPaper x = new CreasedPaper(3);
        x.fold(1, true);
        int rest = 450;
        DUE.is("fresh", x.crease(1, 1), rest);
        for (int i = 0; i < 60; i++) {
            x.hold(1);
            rest += (1800 - rest) * 100 / 1000;
            DUE.is("crept", x.crease(1, 1), rest);
        }
        x.open();
        rest -= rest * 10 / 1000;
        DUE.is("eased by opening", x.crease(1, 1), rest);
        x.hold(37);
        for (int i = 0; i < 37; i++) {
            rest -= rest * 10 / 1000;
        }
        DUE.is("eased", x.crease(1, 1), rest);
        x.rules(0, 333, 100, 40);
        x.hold(1000);
        for (int i = 0; i < 1000; i++) {
            rest -= rest * 333 / 1000;
        }
        DUE.is("eased to where it stays", x.crease(1, 1), rest);
        x.fold(1, false);
        DUE.is("at least 300", x.crease(1, 1), 300);
        x.rules(1, 0, 100, 40);
        x.hold(600);
        rest = 300;
        for (int i = 0; i < 600; i++) {
            rest += (1800 - rest) / 1000;
        }
        DUE.is("slow", x.crease(1, 1), rest);
        DUE.is("never creased never rests", x.crease(2, 1), 0);
        CreasedPaper y = new CreasedPaper(3);
        y.fold(1, true);
        y.hold(10);
        int high = y.crease(1, 1);
        y.open();
        int eased = high - high * 10 / 1000;
        y.rules(0, 0, 100, 40);
        y.fold(1, true);
        DUE.is("more than 300 stays", y.crease(1, 1), eased);
    }

    private static void holdsAndTheClock() {
        CreasedPaper x = new CreasedPaper(3);
        int[] wrong = {0, -1, 1001, Integer.MIN_VALUE, Integer.MAX_VALUE};
        for (int ticks : wrong) {
            DUE.is("hold " + ticks, x.hold(ticks), -1);
        }
        DUE.is("no act", x.about(2), 0);
        DUE.is("one", x.hold(1), 1);
        DUE.is("a thousand", x.hold(1000), 1001);
        DUE.is("acts", x.about(2), 2);
        for (int i = 0; i < 98; i++) {
            x.hold(1000);
        }
        DUE.is("clock", x.about(1), 99001);
        DUE.is("one beyond", x.hold(1000), -1);
        DUE.is("not moved", x.about(1), 99001);
        DUE.is("to the end", x.hold(999), 100000);
        DUE.is("at the end", x.hold(1), -1);
        DUE.is("open at the end", x.open(), -1);
        DUE.is("acts", x.about(2), 101);
    }

    private static void openings() {
        CreasedPaper x = new CreasedPaper(5);
        DUE.is("open a flat one", x.open(), 1);
        DUE.is("it is an act", x.about(2), 1);
        x.fold(2, false);
        x.fold(4, true);
        DUE.is("open", x.open(), 4);
        for (int u = 0; u < 5; u++) {
            DUE.is("flat place", x.cell(u, 0), u);
            DUE.is("flat layer", x.cell(u, 1), 0);
            DUE.is("flat face", x.cell(u, 2), 1);
        }
        DUE.is("creases stay", x.about(3), 2);
    }

    private static void questionsAboutNothing() {
        CreasedPaper x = new CreasedPaper(5);
        x.fold(2, true);
        int[] strange = {-1, 5, 6, 7, Integer.MIN_VALUE, Integer.MAX_VALUE};
        for (int u : strange) {
            DUE.is("cell " + u, x.cell(u, 0), -1000);
            DUE.is("layers " + u, x.layers(u), u == -1 ? 1 : 0);
            DUE.is("point " + u, x.crease(u, 0), -1);
        }
        DUE.is("point 0", x.crease(0, 0), -1);
        int[] whats = {-1, 3, Integer.MIN_VALUE, Integer.MAX_VALUE};
        for (int what : whats) {
            DUE.is("what " + what, x.cell(0, what), -1000);
        }
        DUE.is("crease what", x.crease(2, 7), -1);
        DUE.is("crease what", x.crease(2, -1), -1);
        DUE.is("layer", x.at(0, -1), -1);
        DUE.is("layer", x.at(0, 2), -1);
        DUE.is("layer", x.at(-1, 0), 4);
        DUE.is("layer", x.at(Integer.MIN_VALUE, 0), -1);
        DUE.is("layer", x.at(1, Integer.MAX_VALUE), -1);
        DUE.is("layers", x.layers(0), 2);
    }
}
