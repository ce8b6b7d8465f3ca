/**
 * Promises 2, 4, 5 and 9: rules, the clock, REST, WEAR and what is TORN. Each sentence of the
 * document that names a boundary case has a test of its own.
 */
public final class CreaseEdgesTest {
    private static final Due DUE = new Due("CreaseEdgesTest");

    public static void main(String[] args) {
        creepAndEaseAtFirst();
        creepAndEaseEdges();
        strongAtFirst();
        strongEdges();
        thickEdges();
        otherRules();
        otherRulesChangeNothing();
        tornStay();
        clockAtFirstAndAtMost();
        acts();
        restAtLeast();
        restBounds();
        growthIsCut();
        fallIsCut();
        ticksComeBehindTheAct();
        onlyCreasedPointsRest();
        wearByLayers();
        wearByTheGreater();
        wearIsCountedAhead();
        tornAtStrongOrAbove();
        tickAsTheActBegan();
        holdTicks();
        holdOthers();
        holdBeyondTheEnd();
        openAtTheEnd();
        openIsFlat();
        creaseOthers();
        creaseNever();
        DUE.end();
    }

    private static void creepAndEaseAtFirst() {
        DUE.sentence("CREEP, EASE 0 .. 1000 (at first 100, 10).");
        CreasedPaper x = new CreasedPaper(2);
        x.fold(1, true);
        DUE.is("300 and 150", x.crease(1, 1), 450);
        x.hold(1000);
        x.open();
        DUE.is("1791 without 17", x.crease(1, 1), 1774);
    }

    private static void creepAndEaseEdges() {
        DUE.sentence("CREEP, EASE 0 .. 1000");
        int[][] rows = {{0, 0, 300, 300}, {1000, 0, 1800, 1800}, {0, 1000, 300, 0}, {1000, 1000, 1800, 0},
            {1, 1, 301, 301}, {999, 999, 1798, 2}};
        for (int[] row : rows) {
            CreasedPaper x = new CreasedPaper(2);
            DUE.is("rules " + row[0] + " " + row[1], x.rules(row[0], row[1], 100, 40), true);
            x.fold(1, true);
            DUE.is("folded by " + row[0], x.crease(1, 1), row[2]);
            x.open();
            DUE.is("open by " + row[1], x.crease(1, 1), row[3]);
        }
    }

    private static void strongAtFirst() {
        DUE.sentence("STRONG (1 .. 1000; at first 100)");
        CreasedPaper x = new CreasedPaper(2);
        Acts.foldAndOpen(x, 1, 99);
        DUE.is("wear", x.crease(1, 2), 99);
        DUE.is("99 don't tear it", x.crease(1, 5), 0);
        Acts.foldAndOpen(x, 1, 1);
        DUE.is("wear", x.crease(1, 2), 100);
        DUE.is("100 tear it", x.crease(1, 5), 1);
    }

    private static void strongEdges() {
        DUE.sentence("STRONG (1 .. 1000; ..)");
        CreasedPaper x = new CreasedPaper(2);
        DUE.is("the least", x.rules(100, 10, 1, 40), true);
        DUE.is("a fold that tears", x.fold(1, true), 1);
        DUE.is("torn at once", x.crease(1, 5), 1);
        CreasedPaper y = new CreasedPaper(2);
        DUE.is("the greatest", y.rules(100, 10, 1000, 40), true);
        for (int i = 0; i < 6; i++) {
            DUE.is("150 folds", Texts.done(y, "again 50(again 3(fold 1 left;open;))"), 300);
        }
        DUE.is("99 folds more", Texts.done(y, "again 11(again 9(fold 1 right;open;))"), 198);
        DUE.is("wear", y.crease(1, 2), 999);
        DUE.is("999 don't tear it", y.crease(1, 5), 0);
        DUE.is("one more", y.fold(1, true), 1);
        DUE.is("1000 tear it", y.crease(1, 5), 1);
    }

    private static void thickEdges() {
        DUE.sentence("THICK (1 .. 40; at first 40)");
        CreasedPaper x = new CreasedPaper(40);
        DUE.is("at first", x.fold(20, true), 1);
        DUE.is("the least", x.rules(100, 10, 100, 1), true);
        DUE.is("is 1", x.fold(10, true), -2);
        DUE.is("the greatest", x.rules(100, 10, 100, 40), true);
        DUE.is("is 40", x.fold(10, true), 2);
    }

    /** CREEP 200, EASE 20, STRONG 2, THICK 2 are told, then others that must not be taken. */
    private static CreasedPaper withRules(int creep, int ease, int strong, int thick) {
        CreasedPaper x = new CreasedPaper(4);
        x.rules(200, 20, 2, 2);
        DUE.is("rules " + creep + " " + ease + " " + strong + " " + thick, x.rules(creep, ease, strong, thick),
                false);
        return x;
    }

    private static void otherRules() {
        DUE.sentence("False, changing nothing, for others.");
        int[] edges = {-1, 1001};
        for (int edge : edges) {
            withRules(edge, 10, 100, 40);
            withRules(100, edge, 100, 40);
        }
        int[] strongs = {-1, 0, 1001};
        for (int strong : strongs) {
            withRules(100, 10, strong, 40);
        }
        int[] thicks = {-1, 0, 41};
        for (int thick : thicks) {
            withRules(100, 10, 100, thick);
        }
        for (int far : Acts.FAR) {
            withRules(far, 10, 100, 40);
            withRules(100, far, 100, 40);
            withRules(100, 10, far, 40);
            withRules(100, 10, 100, far);
        }
    }

    private static void otherRulesChangeNothing() {
        DUE.sentence("(False,) changing nothing");
        int[][] wrong = {{-1, 0, 9, 40}, {1001, 0, 9, 40}, {0, -1, 9, 40}, {0, 1001, 9, 40}, {0, 0, 0, 40},
            {0, 0, 1001, 40}, {0, 0, 9, 0}, {0, 0, 9, 41}};
        for (int[] w : wrong) {
            CreasedPaper x = withRules(w[0], w[1], w[2], w[3]);
            String was = Whole.of(new CreasedPaper(4));
            DUE.same("nothing is done", Whole.of(x), was);
            x.fold(2, true);
            DUE.is("CREEP is 200", x.crease(2, 1), 600);
            DUE.is("THICK is 2", x.fold(1, true), -2);
            x.open();
            DUE.is("EASE is 20", x.crease(2, 1), 588);
            DUE.is("not torn by one", x.crease(2, 5), 0);
            x.fold(2, true);
            DUE.is("STRONG is 2", x.crease(2, 5), 1);
        }
    }

    private static void tornStay() {
        DUE.sentence("(TORN ones stay so.)");
        CreasedPaper x = new CreasedPaper(3);
        x.rules(100, 10, 1, 40);
        x.fold(1, true);
        x.rules(100, 10, 1000, 40);
        DUE.is("torn", x.crease(1, 5), 1);
        DUE.is("one of them", x.about(4), 1);
        x.open();
        x.hold(1000);
        DUE.is("torn", x.crease(1, 5), 1);
        DUE.is("and it jams", x.fold(1, true), -3);
    }

    private static void clockAtFirstAndAtMost() {
        DUE.sentence("TICKS: the clock, at first 0 (100000 at most).");
        CreasedPaper x = new CreasedPaper(2);
        DUE.is("at first", x.about(1), 0);
        for (int i = 1; i <= 100; i++) {
            DUE.is("the clock", x.hold(1000), 1000 * i);
        }
        DUE.is("at most", x.about(1), 100000);
        DUE.is("no hold", x.hold(1), -1);
        DUE.is("no opening", x.open(), -1);
        DUE.is("no fold", x.fold(1, true), -4);
        DUE.is("at most", x.about(1), 100000);
    }

    private static void acts() {
        DUE.sentence("ACTS are numbered from 0 on: each FOLD, HOLD, OPEN that is done (also by a text).");
        CreasedPaper x = new CreasedPaper(6);
        DUE.is("none at first", x.about(2), 0);
        x.fold(0, true);
        x.hold(0);
        x.hold(1001);
        Texts.done(x, "open;oops");
        DUE.is("what is refused is no act", x.about(2), 0);
        x.fold(3, true);
        DUE.is("the first has 0", x.crease(3, 4), 0);
        x.hold(1000);
        DUE.is("a hold is one", x.about(2), 2);
        x.open();
        DUE.is("an opening is one", x.about(2), 3);
        DUE.is("three by a text", Texts.done(x, "hold 2;open;fold 2 right;fold 9 left;"), 3);
        DUE.is("they are acts", x.about(2), 6);
        DUE.is("by the sixth", x.crease(2, 4), 5);
        DUE.is("by the first still", x.crease(3, 4), 0);
    }

    private static void restAtLeast() {
        DUE.sentence("CREASED: REST is at least 300");
        CreasedPaper x = new CreasedPaper(2);
        x.rules(0, 0, 100, 40);
        x.fold(1, true);
        DUE.is("never creased before", x.crease(1, 1), 300);
        x.rules(0, 4, 100, 40);
        x.open();
        DUE.is("eased to 299", x.crease(1, 1), 299);
        x.fold(1, true);
        DUE.is("at least 300", x.crease(1, 1), 300);
        x.rules(0, 0, 100, 40);
        x.open();
        x.fold(1, true);
        DUE.is("300 stays", x.crease(1, 1), 300);
        x.rules(1, 0, 100, 40);
        x.hold(1);
        x.open();
        x.rules(0, 0, 100, 40);
        x.fold(1, true);
        DUE.is("301 stays", x.crease(1, 1), 301);
        x.rules(0, 1000, 100, 40);
        x.open();
        DUE.is("eased to 0", x.crease(1, 1), 0);
        x.fold(1, false);
        DUE.is("at least 300 again", x.crease(1, 1), 300);
    }

    private static void restBounds() {
        DUE.sentence("REST (tenths of a degree, 0 .. 1800)");
        CreasedPaper x = new CreasedPaper(2);
        x.rules(1000, 1000, 100, 40);
        x.fold(1, true);
        DUE.is("the greatest", x.crease(1, 1), 1800);
        x.hold(1000);
        DUE.is("not beyond it", x.crease(1, 1), 1800);
        x.open();
        DUE.is("the least", x.crease(1, 1), 0);
        x.hold(1000);
        DUE.is("not below it", x.crease(1, 1), 0);
    }

    private static void growthIsCut() {
        DUE.sentence("REST grows by (1800 - REST) * CREEP / 1000, cut");
        CreasedPaper x = new CreasedPaper(2);
        x.rules(1, 0, 100, 40);
        x.fold(1, true);
        DUE.is("1500 are one", x.crease(1, 1), 301);
        x.hold(499);
        DUE.is("to 800", x.crease(1, 1), 800);
        x.hold(1);
        DUE.is("1000 are one", x.crease(1, 1), 801);
        x.hold(1);
        DUE.is("999 are none", x.crease(1, 1), 801);
        x.hold(1000);
        DUE.is("it stays there", x.crease(1, 1), 801);
        x.rules(1000, 0, 100, 40);
        x.hold(1);
        DUE.is("another rule, another end", x.crease(1, 1), 1800);
        CreasedPaper y = new CreasedPaper(2);
        y.fold(1, true);
        y.hold(1000);
        DUE.is("ten are one, nine are none", y.crease(1, 1), 1791);
    }

    private static void fallIsCut() {
        DUE.sentence("else it falls by REST * EASE / 1000, cut.");
        CreasedPaper x = new CreasedPaper(2);
        x.rules(1000, 1, 100, 40);
        x.fold(1, true);
        x.open();
        DUE.is("1800 are one", x.crease(1, 1), 1799);
        x.hold(799);
        DUE.is("to 1000", x.crease(1, 1), 1000);
        x.hold(1);
        DUE.is("1000 are one", x.crease(1, 1), 999);
        x.hold(1);
        DUE.is("999 are none", x.crease(1, 1), 999);
        x.hold(1000);
        DUE.is("it stays there", x.crease(1, 1), 999);
        x.rules(1000, 10, 100, 40);
        x.hold(1000);
        DUE.is("100 are one, 99 are none", x.crease(1, 1), 99);
    }

    private static void ticksComeBehindTheAct() {
        DUE.sentence("In a TICK (behind the act itself), of each POINT that was CREASED: is it FOLDED (CELLS beside"
                + " it are in one PLACE)");
        CreasedPaper x = new CreasedPaper(4);
        x.rules(1000, 100, 100, 40);
        x.fold(2, true);
        DUE.is("folded by this act, so it creeps", x.crease(2, 1), 1800);
        x.open();
        DUE.is("open by this act, so it eases", x.crease(2, 1), 1620);
        x.fold(1, true);
        DUE.is("another fold: this one eases on", x.crease(2, 1), 1458);
        DUE.is("and the new one creeps", x.crease(1, 1), 1800);
        x.hold(2);
        DUE.is("two ticks", x.crease(2, 1), 1458 - 145 - 131);
    }

    private static void onlyCreasedPointsRest() {
        DUE.sentence("of each POINT that was CREASED");
        CreasedPaper x = new CreasedPaper(3);
        x.rules(1000, 1000, 100, 40);
        x.fold(1, true);
        x.hold(1000);
        DUE.is("never creased", x.crease(2, 1), 0);
        DUE.is("one was", x.about(3), 1);
        x.open();
        DUE.is("one was, though its rest is 0", x.about(3), 1);
    }

    private static void wearByLayers() {
        DUE.sentence("WEAR is one more (and one more for each 8 LAYERS, cut, that PLACE p - 1 and PLACE p had ahead"
                + " of it ..)");
        CreasedPaper x = new CreasedPaper(40);
        x.rules(100, 10, 1000, 40);
        CreasedPaper y = new CreasedPaper(40);
        y.rules(100, 10, 1000, 40);
        for (int layers = 1; layers <= 39; layers++) {
            int due = layers < 8 ? 1 : layers < 16 ? 2 : layers < 24 ? 3 : layers < 32 ? 4 : 5;
            x.fold(layers, false);
            DUE.is("below the line " + layers, x.crease(layers, 2), due);
            y.fold(40 - layers, true);
            DUE.is("above the line " + layers, y.crease(40 - layers, 2), due);
        }
        x.open();
        x.fold(39, true);
        DUE.is("it is added", x.crease(39, 2), 6);
        DUE.is("not to others", x.crease(38, 2), 5);
    }

    private static void wearByTheGreater() {
        DUE.sentence("(.. that PLACE p - 1 and PLACE p had ahead of it, the greater)");
        CreasedPaper x = new CreasedPaper(16);
        x.fold(8, true);
        x.fold(4, true);
        DUE.is("four on both sides", x.layers(1) * 10 + x.layers(2), 44);
        x.fold(2, true);
        DUE.is("they are not added up", x.crease(2, 2), 1);
        CreasedPaper y = new CreasedPaper(20);
        Acts.rollUp(y, 7);
        DUE.is("eight and one", y.layers(7) * 10 + y.layers(8), 81);
        y.fold(8, true);
        DUE.is("the greater one", y.crease(8, 2), 2);
        CreasedPaper z = new CreasedPaper(20);
        Acts.rollUp(z, 7);
        z.fold(9, true);
        DUE.is("eight, but one place off", z.crease(9, 2), 1);
    }

    private static void wearIsCountedAhead() {
        DUE.sentence("(.. had ahead of it ..)");
        CreasedPaper x = new CreasedPaper(16);
        Acts.rollUp(x, 6);
        x.fold(7, true);
        DUE.is("eight behind it", x.layers(6), 8);
        DUE.is("seven ahead of it", x.crease(7, 2), 1);
    }

    private static void tornAtStrongOrAbove() {
        DUE.sentence("it is TORN from then on, if WEAR is STRONG (..) or above.");
        CreasedPaper x = new CreasedPaper(18);
        x.rules(100, 10, 3, 40);
        x.fold(8, true);
        x.open();
        DUE.is("one of three", x.crease(8, 5), 0);
        Acts.rollUp(x, 7);
        x.fold(8, false);
        DUE.is("wear", x.crease(8, 2), 3);
        DUE.is("three of three", x.crease(8, 5), 1);
        CreasedPaper y = new CreasedPaper(18);
        y.rules(100, 10, 2, 40);
        y.fold(8, true);
        y.open();
        Acts.rollUp(y, 7);
        y.fold(8, false);
        DUE.is("three of two", y.crease(8, 5), 1);
        DUE.is("it alone", y.about(4), 1);
        CreasedPaper z = new CreasedPaper(18);
        z.rules(100, 10, 4, 40);
        z.fold(8, true);
        z.open();
        Acts.rollUp(z, 7);
        z.fold(8, false);
        DUE.is("three of four", z.crease(8, 5), 0);
        z.rules(100, 10, 1, 40);
        z.hold(1);
        DUE.is("it is not creased now", z.crease(8, 5), 0);
    }

    private static void tickAsTheActBegan() {
        DUE.sentence("the TICK (as the act began) and the ACT by which it was CREASED last.");
        CreasedPaper x = new CreasedPaper(4);
        x.fold(2, true);
        DUE.is("the first tick", x.crease(2, 3), 0);
        x.open();
        x.hold(7);
        x.fold(2, true);
        DUE.is("last", x.crease(2, 3), 9);
        DUE.is("last", x.crease(2, 4), 3);
        x.open();
        Acts.holdTo(x, Acts.LAST_TICK - 1);
        int acts = x.about(2);
        x.fold(1, true);
        DUE.is("the last one", x.crease(1, 3), 99999);
        DUE.is("its act", x.crease(1, 4), acts);
    }

    private static void holdTicks() {
        DUE.sentence("HOLD (1 .. 1000): the clock.");
        CreasedPaper x = new CreasedPaper(2);
        DUE.is("the least", x.hold(1), 1);
        DUE.is("the greatest", x.hold(1000), 1001);
        DUE.is("between", x.hold(999), 2000);
    }

    private static void holdOthers() {
        DUE.sentence("NONE for others");
        CreasedPaper x = new CreasedPaper(4);
        x.fold(2, true);
        String was = Whole.of(x);
        int[] others = {0, -1, 1001, 1002};
        for (int ticks : others) {
            DUE.is("hold " + ticks, x.hold(ticks), -1);
        }
        for (int ticks : Acts.FAR) {
            DUE.is("hold " + ticks, x.hold(ticks), -1);
        }
        DUE.same("nothing is done", Whole.of(x), was);
    }

    private static void holdBeyondTheEnd() {
        DUE.sentence("(NONE for others,) or beyond its end.");
        CreasedPaper x = new CreasedPaper(4);
        x.fold(2, true);
        Acts.holdTo(x, 99001);
        x.rules(1, 0, 100, 40);
        String was = Whole.of(x);
        DUE.is("one beyond", x.hold(1000), -1);
        DUE.same("nothing is done", Whole.of(x), was);
        DUE.is("to the end", x.hold(999), 100000);
        for (int ticks : new int[] {1, 2, 1000, Integer.MAX_VALUE}) {
            DUE.is("at the end", x.hold(ticks), -1);
        }
        CreasedPaper y = new CreasedPaper(2);
        Acts.holdTo(y, 99999);
        DUE.is("two beyond 99999", y.hold(2), -1);
        DUE.is("one is left", y.hold(1), 100000);
        CreasedPaper z = new CreasedPaper(2);
        Acts.holdTo(z, 99000);
        DUE.is("the greatest to the end", z.hold(1000), 100000);
    }

    private static void openAtTheEnd() {
        DUE.sentence("OPEN: the clock. NONE at its end.");
        CreasedPaper x = new CreasedPaper(4);
        DUE.is("a flat one", x.open(), 1);
        x.fold(2, true);
        Acts.holdTo(x, 99999);
        x.image();
        DUE.is("one tick is left", x.open(), 100000);
        x.back();
        x.hold(1);
        String was = Whole.of(x);
        DUE.is("none is left", x.open(), -1);
        DUE.same("nothing is done", Whole.of(x), was);
        DUE.is("still folded", x.crease(2, 6), 1);
    }

    private static void openIsFlat() {
        DUE.sentence("OPEN: FLAT again; CREASES stay.");
        CreasedPaper x = new CreasedPaper(40);
        Acts.rollUp(x, 39);
        x.open();
        for (int u = 0; u < 40; u++) {
            DUE.is("place of " + u, x.cell(u, 0), u);
            DUE.is("layer of " + u, x.cell(u, 1), 0);
            DUE.is("face of " + u, x.cell(u, 2), 1);
        }
        DUE.is("all creases", x.about(3), 39);
        DUE.is("sign", x.crease(39, 0), 1);
        DUE.is("wear", x.crease(39, 2), 5);
        DUE.is("tick", x.crease(39, 3), 38);
        DUE.is("act", x.crease(39, 4), 38);
        DUE.is("not folded", x.crease(39, 6), 0);
    }

    private static void creaseOthers() {
        DUE.sentence("Of a POINT: 0 SIGN .. 6 FOLDED (1, 0). NONE for others.");
        CreasedPaper x = new CreasedPaper(3);
        x.hold(4);
        x.fold(2, true);
        int[] told = {1, 450, 1, 4, 1, 0, 1};
        int[] never = {0, 0, 0, -1, -1, 0, 0};
        for (int what = -1; what <= 7; what++) {
            boolean is = what >= 0 && what < 7;
            DUE.is("crease(0, " + what + ")", x.crease(0, what), -1);
            DUE.is("crease(1, " + what + ")", x.crease(1, what), is ? never[what] : -1);
            DUE.is("crease(2, " + what + ")", x.crease(2, what), is ? told[what] : -1);
            DUE.is("crease(3, " + what + ")", x.crease(3, what), -1);
        }
        for (int far : Acts.FAR) {
            DUE.is("crease(" + far + ", 0)", x.crease(far, 0), -1);
            DUE.is("crease(2, " + far + ")", x.crease(2, far), -1);
        }
    }

    private static void creaseNever() {
        DUE.sentence("0 SIGN (0: never creased), .. (3, 4: NONE, never)");
        CreasedPaper x = new CreasedPaper(2);
        DUE.is("sign", x.crease(1, 0), 0);
        DUE.is("tick", x.crease(1, 3), -1);
        DUE.is("act", x.crease(1, 4), -1);
        x.fold(1, true);
        DUE.is("tick 0", x.crease(1, 3), 0);
        DUE.is("act 0", x.crease(1, 4), 0);
        x.back();
        DUE.is("never again", x.crease(1, 3), -1);
        DUE.is("never again", x.crease(1, 4), -1);
    }
}
