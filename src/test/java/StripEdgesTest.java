/**
 * Promises 1, 3, 6, 7 and 8: where CELLS lie, and FOLDS that can and can't be done. Each
 * sentence of the document that names a boundary case has a test of its own.
 */
public final class StripEdgesTest {
    private static final Due DUE = new Due("StripEdgesTest");

    public static void main(String[] args) {
        lengths();
        cellsAndPoints();
        flat();
        imageOfTheNew();
        cellsOnBothSides();
        cellsOnBothSidesOfFarLines();
        rightMoves();
        leftMoves();
        comersLieOnTop();
        comersToAnEmptyPlace();
        farPlaces();
        creasedPointsAreAtTheLine();
        signs();
        howManyWereCreased();
        jammedByThick();
        jammedByAPlaceThatStays();
        jammedByTorn();
        tornElsewhereDoesNotJam();
        clockAtItsEnd();
        firstOfThese();
        refusedFoldsDoNothing();
        cellOthers();
        layersOfAnyPlace();
        atOthers();
        DUE.end();
    }

    private static void lengths() {
        DUE.sentence("A STRIP of L CELLS (2 to 40; others: the nearest of these)");
        int[][] rows = {{Integer.MIN_VALUE, 2}, {-40, 2}, {-1, 2}, {0, 2}, {1, 2}, {2, 2}, {3, 3}, {39, 39},
            {40, 40}, {41, 40}, {80, 40}, {Integer.MAX_VALUE, 40}};
        for (int[] row : rows) {
            CreasedPaper x = new CreasedPaper(row[0]);
            DUE.is("L of " + row[0], x.about(0), row[1]);
            DUE.is("last place of " + row[0], x.about(10), row[1] - 1);
        }
    }

    private static void cellsAndPoints() {
        DUE.sentence("CELLS 0 .. L - 1 (L 2 to 40), POINTS 1 .. L - 1 between them.");
        for (int length : new int[] {2, 3, 40}) {
            CreasedPaper x = new CreasedPaper(length);
            DUE.is("no cell -1", x.cell(-1, 0), -1000);
            DUE.is("cell 0", x.cell(0, 0), 0);
            DUE.is("the last cell", x.cell(length - 1, 0), length - 1);
            DUE.is("no cell L", x.cell(length, 0), -1000);
            DUE.is("no point 0", x.crease(0, 0), -1);
            DUE.is("point 1", x.crease(1, 0), 0);
            DUE.is("the last point", x.crease(length - 1, 0), 0);
            DUE.is("no point L", x.crease(length, 0), -1);
        }
    }

    private static void flat() {
        DUE.sentence("FLAT: CELL u is in PLACE u, LAYER 0, FACE UP.");
        for (int length : new int[] {2, 40}) {
            CreasedPaper x = new CreasedPaper(length);
            for (int u = 0; u < length; u++) {
                isCell(x, u, u, 0, 1);
            }
            DUE.is("lowest", x.about(9), 0);
            DUE.is("highest", x.about(10), length - 1);
        }
    }

    private static void isCell(CreasedPaper x, int u, int place, int layer, int face) {
        DUE.is("place of " + u, x.cell(u, 0), place);
        DUE.is("layer of " + u, x.cell(u, 1), layer);
        DUE.is("face of " + u, x.cell(u, 2), face);
        DUE.is("at " + place + ", " + layer, x.at(place, layer), u);
    }

    private static void imageOfTheNew() {
        DUE.sentence("FLAT, never creased; THE IMAGE is this.");
        for (int length : new int[] {-5, 2, 5, 40, 41}) {
            CreasedPaper x = new CreasedPaper(length);
            String was = Whole.of(x);
            x.rules(1, 2, 1, 2);
            x.fold(1, true);
            x.sheet(1, 1, 1, 1, 1);
            x.see(1, 1);
            DUE.is("the clock of the image", x.back(), 0);
            DUE.same("as it was when new", Whole.of(x), was);
        }
    }

    private static void cellsOnBothSides() {
        DUE.sentence("there must be CELLS in PLACES below p and in p or above.");
        for (boolean right : new boolean[] {true, false}) {
            int[] answers = {-1, -1, 1, 1, 1, -1, -1};
            for (int line = -1; line <= 5; line++) {
                DUE.is("four flat cells at " + line, new CreasedPaper(4).fold(line, right), answers[line + 1]);
            }
            DUE.is("two cells at 0", new CreasedPaper(2).fold(0, right), -1);
            DUE.is("two cells at 1", new CreasedPaper(2).fold(1, right), 1);
            DUE.is("two cells at 2", new CreasedPaper(2).fold(2, right), -1);
            // CELLS 1 .. 4 go to 0 .. -3.
            int[] below = {-1, -1, 1, 1, 1, -1, -1};
            for (int line = -4; line <= 2; line++) {
                CreasedPaper x = new CreasedPaper(5);
                x.fold(1, true);
                DUE.is("in places -3 .. 0 at " + line, x.fold(line, right), below[line + 4]);
            }
            // CELLS 0 .. 3 go to 7 .. 4.
            int[] above = {-1, -1, 1, 1, 1, -1, -1};
            for (int line = 3; line <= 9; line++) {
                CreasedPaper x = new CreasedPaper(5);
                x.fold(4, false);
                DUE.is("in places 4 .. 7 at " + line, x.fold(line, right), above[line - 3]);
            }
            for (int line = -1; line <= 2; line++) {
                CreasedPaper x = new CreasedPaper(2);
                x.fold(1, true);
                DUE.is("all in one place at " + line, x.fold(line, right), -1);
            }
        }
    }

    private static void cellsOnBothSidesOfFarLines() {
        DUE.sentence("-1: no CELLS on one side");
        for (int line : Acts.FAR) {
            CreasedPaper x = new CreasedPaper(40);
            DUE.is("right at " + line, x.fold(line, true), -1);
            DUE.is("left at " + line, x.fold(line, false), -1);
            DUE.is("nothing is done", x.about(2), 0);
        }
        CreasedPaper x = new CreasedPaper(40);
        DUE.is("the last of forty", x.fold(39, true), 1);
        DUE.is("it is not there any more", x.fold(39, true), -1);
    }

    private static void rightMoves() {
        DUE.sentence("Of RIGHT: each CELL in a PLACE x of p or above goes to PLACE 2 p - 1 - x");
        int[] firstLine = {0, 0, -1, -2, -3};
        int[] lastLine = {0, 1, 2, 3, 3};
        CreasedPaper first = new CreasedPaper(5);
        first.fold(1, true);
        CreasedPaper last = new CreasedPaper(5);
        last.fold(4, true);
        for (int u = 0; u < 5; u++) {
            DUE.is("by 1, cell " + u, first.cell(u, 0), firstLine[u]);
            DUE.is("by 4, cell " + u, last.cell(u, 0), lastLine[u]);
            DUE.is("by 1 turned, cell " + u, first.cell(u, 2), u < 1 ? 1 : 0);
            DUE.is("by 4 turned, cell " + u, last.cell(u, 2), u < 4 ? 1 : 0);
        }
    }

    private static void leftMoves() {
        DUE.sentence("of LEFT: each in a PLACE below p does.");
        int[] firstLine = {1, 1, 2, 3, 4};
        int[] lastLine = {7, 6, 5, 4, 4};
        CreasedPaper first = new CreasedPaper(5);
        first.fold(1, false);
        CreasedPaper last = new CreasedPaper(5);
        last.fold(4, false);
        for (int u = 0; u < 5; u++) {
            DUE.is("by 1, cell " + u, first.cell(u, 0), firstLine[u]);
            DUE.is("by 4, cell " + u, last.cell(u, 0), lastLine[u]);
            DUE.is("by 1 turned, cell " + u, first.cell(u, 2), u < 1 ? 0 : 1);
            DUE.is("by 4 turned, cell " + u, last.cell(u, 2), u < 4 ? 0 : 1);
        }
    }

    private static void comersLieOnTop() {
        DUE.sentence("they lie on those that are there and stay, the one that was highest lowest; they are turned"
                + " (FACE UP becomes DOWN, DOWN UP).");
        CreasedPaper x = new CreasedPaper(4);
        x.fold(2, true);
        x.fold(1, true);
        // PLACE 1 had CELL 1 below CELL 2; they come to 0 with 3 on it.
        int[] pile = {0, 3, 2, 1};
        int[] face = {1, 0, 1, 0};
        for (int layer = 0; layer < 4; layer++) {
            isCell(x, pile[layer], 0, layer, face[layer]);
        }
        CreasedPaper y = new CreasedPaper(4);
        y.fold(2, true);
        y.fold(1, false);
        int[] other = {1, 2, 3, 0};
        int[] otherFace = {1, 0, 1, 0};
        for (int layer = 0; layer < 4; layer++) {
            isCell(y, other[layer], 1, layer, otherFace[layer]);
        }
    }

    private static void comersToAnEmptyPlace() {
        DUE.sentence("LAYERS of a PLACE are numbered anew from 0, the lowest first.");
        CreasedPaper x = new CreasedPaper(5);
        x.fold(4, true);
        x.fold(1, true);
        // CELLS 3 and 4 were LAYERS 0 and 1 of PLACE 3; nothing was in PLACE -2.
        isCell(x, 4, -2, 0, 1);
        isCell(x, 3, -2, 1, 0);
        isCell(x, 2, -1, 0, 0);
        isCell(x, 0, 0, 0, 1);
        isCell(x, 1, 0, 1, 0);
        DUE.is("two there", x.layers(-2), 2);
        DUE.is("none where they were", x.layers(3), 0);
        DUE.is("none where they were", x.at(3, 0), -1);
        CreasedPaper y = new CreasedPaper(5);
        y.fold(1, false);
        y.fold(4, false);
        // CELLS 1 and 0 were LAYERS 0 and 1 of PLACE 1; nothing was in PLACE 6.
        isCell(y, 0, 6, 0, 1);
        isCell(y, 1, 6, 1, 0);
        isCell(y, 4, 4, 0, 1);
        isCell(y, 3, 4, 1, 0);
    }

    /** PLACES below 0 and beyond L - 1 are places like others: for LAYERS, THICK and WEAR. */
    private static void farPlaces() {
        DUE.sentence("each CELL in a PLACE x of p or above goes to PLACE 2 p - 1 - x; of LEFT: each in a PLACE below p"
                + " does. .. they lie on those that are there and stay");
        CreasedPaper x = new CreasedPaper(40);
        x.fold(1, true);
        CreasedPaper y = new CreasedPaper(40);
        y.fold(39, false);
        for (int i = 1; i <= 7; i++) {
            x.fold(-38 + i, false);
            DUE.is("piled up below 0", x.layers(-38 + i), 1 + i);
            y.fold(78 - i, true);
            DUE.is("piled up beyond the strip", y.layers(77 - i), 1 + i);
        }
        // Each FOLD turns the pile over, onto one CELL more.
        int[] below = {32, 34, 36, 38, 39, 37, 35, 33};
        int[] beyond = {7, 5, 3, 1, 0, 2, 4, 6};
        for (int layer = 0; layer < 8; layer++) {
            isCell(x, below[layer], -31, layer, layer < 4 ? 0 : 1);
            isCell(y, beyond[layer], 70, layer, layer < 4 ? 0 : 1);
        }
        x.fold(-30, true);
        DUE.is("wear through eight", x.crease(32, 2), 2);
        y.fold(70, false);
        DUE.is("wear through eight", y.crease(8, 2), 2);
        x.back();
        x.rules(100, 10, 100, 3);
        x.fold(1, true);
        x.fold(-19, true);
        DUE.is("two below 0 are four", x.fold(-29, true), -2);
    }

    private static void creasedPointsAreAtTheLine() {
        DUE.sentence("A FOLD CREASES each POINT between CELLS u and u + 1 of which one was in PLACE p - 1 and"
                + " one in p");
        for (int line = 1; line < 6; line++) {
            CreasedPaper x = new CreasedPaper(6);
            x.fold(line, line % 2 == 0);
            for (int point = 1; point < 6; point++) {
                DUE.is("point " + point + " by " + line, x.crease(point, 0), point == line ? 1 : 0);
            }
        }
        CreasedPaper x = new CreasedPaper(6);
        x.fold(3, true);
        DUE.is("points 2 and 4", x.fold(2, true), 2);
        int[] acts = {1, 0, 1, -1};
        for (int point = 2; point < 6; point++) {
            // POINT 3 has both its CELLS in PLACE 2: it is behind the LINE, not at it.
            DUE.is("act of " + point, x.crease(point, 4), acts[point - 2]);
        }
        DUE.is("act of 1", x.crease(1, 4), -1);
    }

    private static void signs() {
        DUE.sentence("its SIGN is VALLEY (1), if these were FACE UP, else MOUNTAIN (2).");
        for (boolean right : new boolean[] {true, false}) {
            CreasedPaper x = new CreasedPaper(4);
            x.fold(2, true);
            x.fold(1, right);
            DUE.is("face up", x.crease(1, 0), 1);
            DUE.is("face up at first", x.crease(2, 0), 1);
            DUE.is("face down", x.crease(3, 0), 2);
            CreasedPaper y = new CreasedPaper(4);
            y.fold(2, false);
            y.fold(3, right);
            DUE.is("face down", y.crease(1, 0), 2);
            DUE.is("face up at first", y.crease(2, 0), 1);
            DUE.is("face up", y.crease(3, 0), 1);
            y.open();
            y.fold(1, right);
            DUE.is("creased anew, face up now", y.crease(1, 0), 1);
        }
    }

    private static void howManyWereCreased() {
        DUE.sentence("A FOLD: how many POINTS it CREASED (0 can be).");
        CreasedPaper x = new CreasedPaper(40);
        for (int line = 2; line <= 38; line += 2) {
            DUE.is("two layers of two at " + line, x.fold(line, false), 1);
        }
        DUE.is("twenty layers", x.layers(38), 20);
        DUE.is("twenty layers", x.layers(39), 20);
        DUE.is("twenty points, the most of all", x.fold(39, true), 20);
        DUE.is("all points", x.about(3), 39);
        DUE.is("forty layers", x.layers(38), 40);
    }

    private static void jammedByThick() {
        DUE.sentence("THICK (1 .. 40; at first 40): a FOLD is JAMMED, if a PLACE would have more LAYERS.");
        CreasedPaper x = new CreasedPaper(40);
        Acts.rollUp(x, 39);
        DUE.is("forty layers at first", x.layers(39), 40);
        for (boolean right : new boolean[] {true, false}) {
            CreasedPaper one = new CreasedPaper(2);
            one.rules(100, 10, 100, 1);
            DUE.is("two are more than 1", one.fold(1, right), -2);
            one.rules(100, 10, 100, 2);
            DUE.is("two are not more than 2", one.fold(1, right), 1);
        }
        CreasedPaper y = new CreasedPaper(40);
        y.rules(100, 10, 100, 39);
        Acts.rollUp(y, 38);
        DUE.is("39 layers", y.layers(38), 39);
        DUE.is("forty are more than 39", y.fold(39, true), -2);
        DUE.is("forty are more than 39", y.fold(39, false), -2);
        y.rules(100, 10, 100, 40);
        DUE.is("forty are not more than 40", y.fold(39, false), 1);
        // The tallest PLACE needn't be beside the LINE.
        for (boolean right : new boolean[] {true, false}) {
            CreasedPaper z = new CreasedPaper(6);
            z.fold(1, false);
            z.fold(5, true);
            z.rules(100, 10, 100, 3);
            DUE.is("places 1 and 4 have two each", z.fold(3, right), -2);
            z.rules(100, 10, 100, 4);
            DUE.is("four are not more than 4", z.fold(3, right), 1);
        }
    }

    private static void jammedByAPlaceThatStays() {
        DUE.sentence("a FOLD is JAMMED, if a PLACE would have more LAYERS.");
        CreasedPaper x = new CreasedPaper(8);
        Acts.rollUp(x, 2);
        x.rules(100, 10, 100, 2);
        DUE.is("place 2 has three, and would still have them", x.fold(7, true), -2);
        x.rules(100, 10, 100, 3);
        DUE.is("three are not more than 3", x.fold(7, true), 1);
        CreasedPaper y = new CreasedPaper(8);
        Acts.rollUp(y, 2);
        y.rules(100, 10, 100, 2);
        DUE.is("place 2 comes to 11 with its three", y.fold(7, false), -2);
    }

    private static void jammedByTorn() {
        DUE.sentence("It is JAMMED, too, if it would CREASE a POINT that is TORN.");
        for (boolean right : new boolean[] {true, false}) {
            CreasedPaper x = new CreasedPaper(4);
            x.rules(100, 10, 1, 40);
            x.fold(3, true);
            x.open();
            x.rules(100, 10, 100, 40);
            DUE.is("the point alone", x.fold(3, right), -3);
            DUE.is("others can be", x.fold(2, true), 1);
            DUE.is("one of two points", x.fold(1, right), -3);
            DUE.is("the other is not creased", x.crease(1, 0), 0);
            CreasedPaper y = new CreasedPaper(4);
            y.rules(100, 10, 1, 40);
            y.fold(1, true);
            y.open();
            y.rules(100, 10, 100, 40);
            y.fold(2, true);
            DUE.is("the other one of two points", y.fold(1, right), -3);
        }
    }

    private static void tornElsewhereDoesNotJam() {
        DUE.sentence("if it would CREASE a POINT that is TORN.");
        CreasedPaper x = new CreasedPaper(5);
        x.rules(100, 10, 1, 40);
        DUE.is("torn at 1", x.fold(1, false), 1);
        // CELLS 0 and 1 are in PLACE 1: the LINE goes along it, but not between them.
        DUE.is("folded beside the line", x.fold(2, true), 1);
        x.open();
        DUE.is("beside a torn one", x.fold(3, true), 1);
        DUE.is("all three", x.about(4), 3);
        x.open();
        int[] answers = {-3, -3, -3, 1};
        for (int line = 1; line <= 4; line++) {
            DUE.is("at " + line, x.fold(line, true), answers[line - 1]);
        }
    }

    private static void clockAtItsEnd() {
        DUE.sentence("-4: the clock is at its end.");
        for (boolean right : new boolean[] {true, false}) {
            CreasedPaper x = new CreasedPaper(4);
            Acts.holdTo(x, Acts.LAST_TICK - 2);
            DUE.is("two ticks are left", x.fold(2, right), 1);
            DUE.is("one is left", x.fold(right ? 1 : 3, right), 2);
            DUE.is("the end", x.about(1), Acts.LAST_TICK);
            DUE.is("no cells", x.fold(2, right), -1);
            CreasedPaper y = new CreasedPaper(4);
            Acts.holdTo(y, Acts.LAST_TICK);
            DUE.is("none is left", y.fold(2, right), -4);
            DUE.is("the clock stays", y.about(1), Acts.LAST_TICK);
        }
    }

    /** Of each two that can come together the first is answered. */
    private static void firstOfThese() {
        DUE.sentence("(The first of these; nothing is done.)");
        CreasedPaper x = new CreasedPaper(4);
        x.rules(100, 10, 1, 40);
        x.fold(2, true);
        x.open();
        x.rules(100, 10, 1, 1);
        DUE.is("no cells, ahead of thick", x.fold(0, true), -1);
        DUE.is("no cells, ahead of thick", x.fold(4, false), -1);
        DUE.is("thick, ahead of torn", x.fold(2, true), -2);
        Acts.holdTo(x, Acts.LAST_TICK);
        DUE.is("no cells, ahead of the clock", x.fold(0, true), -1);
        DUE.is("thick, ahead of torn and the clock", x.fold(2, true), -2);
        DUE.is("thick, ahead of the clock", x.fold(1, true), -2);
        x.rules(100, 10, 1, 2);
        DUE.is("torn, ahead of the clock", x.fold(2, true), -3);
        DUE.is("the clock alone", x.fold(1, true), -4);
        CreasedPaper y = new CreasedPaper(4);
        y.fold(2, true);
        y.rules(100, 10, 1, 1);
        DUE.is("a place has more than THICK, but there are no cells", y.fold(2, true), -1);
    }

    private static void refusedFoldsDoNothing() {
        DUE.sentence("(.. nothing is done.)");
        CreasedPaper x = new CreasedPaper(5);
        x.rules(100, 10, 1, 40);
        x.fold(4, true);
        x.rules(100, 10, 100, 2);
        x.fold(1, false);
        String was = Whole.of(x);
        DUE.is("no cells", x.fold(4, true), -1);
        DUE.same("after -1", Whole.of(x), was);
        DUE.is("thick", x.fold(2, true), -2);
        DUE.same("after -2", Whole.of(x), was);
        x.open();
        was = Whole.of(x);
        DUE.is("torn", x.fold(4, false), -3);
        DUE.same("after -3", Whole.of(x), was);
        CreasedPaper y = new CreasedPaper(5);
        y.fold(3, false);
        Acts.holdTo(y, Acts.LAST_TICK);
        was = Whole.of(y);
        DUE.is("the clock", y.fold(4, true), -4);
        DUE.same("after -4", Whole.of(y), was);
    }

    private static void cellOthers() {
        DUE.sentence("Of a CELL: 0 its PLACE, 1 LAYER, 2 FACE (1 UP, 0 DOWN). -1000 for others.");
        CreasedPaper x = new CreasedPaper(3);
        x.fold(2, true);
        int[][] told = {{0, 0, 1}, {1, 0, 1}, {1, 1, 0}};
        for (int u = -1; u <= 3; u++) {
            for (int what = -1; what <= 3; what++) {
                boolean is = u >= 0 && u < 3 && what >= 0 && what < 3;
                DUE.is("cell(" + u + ", " + what + ")", x.cell(u, what), is ? told[u][what] : -1000);
            }
        }
        for (int far : Acts.FAR) {
            DUE.is("cell(" + far + ", 0)", x.cell(far, 0), -1000);
            DUE.is("cell(0, " + far + ")", x.cell(0, far), -1000);
        }
    }

    private static void layersOfAnyPlace() {
        DUE.sentence("How many LAYERS a PLACE (any number) has.");
        CreasedPaper x = new CreasedPaper(5);
        x.fold(2, true);
        int[] layers = {0, 1, 2, 2, 0};
        for (int place = -2; place <= 2; place++) {
            DUE.is("layers(" + place + ")", x.layers(place), layers[place + 2]);
        }
        for (int far : Acts.FAR) {
            DUE.is("layers(" + far + ")", x.layers(far), 0);
        }
    }

    private static void atOthers() {
        DUE.sentence("The CELL in a LAYER of a PLACE. NONE if there is none.");
        CreasedPaper x = new CreasedPaper(5);
        x.fold(2, true);
        int[][] piles = {{}, {4}, {0, 3}, {1, 2}, {}};
        for (int place = -2; place <= 2; place++) {
            int[] pile = piles[place + 2];
            for (int layer = -1; layer <= 3; layer++) {
                boolean is = layer >= 0 && layer < pile.length;
                DUE.is("at(" + place + ", " + layer + ")", x.at(place, layer), is ? pile[layer] : -1);
            }
        }
        for (int far : Acts.FAR) {
            DUE.is("at(" + far + ", 0)", x.at(far, 0), -1);
            DUE.is("at(0, " + far + ")", x.at(0, far), -1);
        }
    }
}
