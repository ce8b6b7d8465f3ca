/**
 * Promises 24 to 26: THE IMAGE, the way BACK, and what is told about all. Each sentence of the
 * document that names a boundary case has a test of its own.
 */
public final class ImageEdgesTest {
    private static final Due DUE = new Due("ImageEdgesTest");

    public static void main(String[] args) {
        allAsItIs();
        rulesAreInIt();
        tellingsAreInIt();
        tapeIsNotInIt();
        faultIsNotInIt();
        imageAnswersTheClock();
        backAnswersTheClock();
        imageStays();
        backWithoutAnImage();
        backFromTheEnd();
        backFromAllThatIsFull();
        aboutEach();
        aboutOthers();
        placesBelowZero();
        lastCall();
        DUE.end();
    }

    private static CreasedPaper used() {
        CreasedPaper x = new CreasedPaper(6);
        x.rules(200, 20, 2, 4);
        x.fold(3, true);
        x.open();
        x.fold(3, false);
        x.fold(4, true);
        x.hold(3);
        x.sheet(2, 10, 3, 4, 5);
        x.see(1, 0);
        x.see(2, 1);
        x.look(1);
        return x;
    }

    private static void changeAll(CreasedPaper x) {
        x.rules(900, 0, 1, 40);
        x.open();
        x.fold(1, true);
        x.hold(7);
        x.sheet(9, 9, 9, 9, 9);
        x.see(3, 2);
        x.see(1, 1);
    }

    private static void allAsItIs() {
        DUE.sentence("AN IMAGE: all as it is .. BACK: all is so again.");
        CreasedPaper x = used();
        String was = Whole.of(x);
        x.image();
        DUE.same("an image changes nothing", Whole.of(x), was);
        changeAll(x);
        DUE.is("all changed", Whole.of(x).equals(was), false);
        x.back();
        DUE.same("all is so again", Whole.of(x), was);
        changeAll(x);
        CreasedPaper y = used();
        changeAll(y);
        DUE.same("what follows is the same", Whole.of(x), Whole.of(y));
    }

    private static void rulesAreInIt() {
        DUE.sentence("all as it is (the rules, too)");
        CreasedPaper x = new CreasedPaper(4);
        x.rules(200, 20, 2, 2);
        x.image();
        x.rules(0, 0, 1000, 40);
        x.back();
        x.fold(2, true);
        DUE.is("CREEP", x.crease(2, 1), 600);
        DUE.is("THICK", x.fold(1, true), -2);
        x.open();
        DUE.is("EASE", x.crease(2, 1), 588);
        x.fold(2, true);
        DUE.is("STRONG", x.crease(2, 5), 1);
    }

    private static void tellingsAreInIt() {
        DUE.sentence("all as it is (what was told, too)");
        CreasedPaper x = new CreasedPaper(4);
        x.see(1, 0);
        x.see(1, 1);
        x.look(1);
        x.image();
        for (int i = 0; i < 2; i++) {
            x.see(2, 2);
            x.back();
            DUE.is("time", x.about(5), 2);
            DUE.is("the look", x.about(6), 1);
            DUE.is("a later time is not there", x.look(3), false);
            DUE.is("at the look", x.orders(3, 1, 0, 0), 2);
            x.look(2);
            DUE.is("at the latest", x.orders(3, 1, 0, 0), 1);
            DUE.is("told anew", x.see(1, 0), 3);
            DUE.is("told anew", x.orders(3, 1, 0, 0), 2);
            x.back();
        }
    }

    private static void tapeIsNotInIt() {
        DUE.sentence("(all ..) but the tape");
        CreasedPaper x = new CreasedPaper(4);
        Texts.put(x, "open;");
        x.image();
        Texts.put(x, "hold 3;open;");
        x.back();
        DUE.is("as long as it was", x.about(8), 12);
        DUE.is("as it was", x.hands(), 2);
        DUE.is("it was done", x.about(1), 4);
        x.back();
        DUE.is("it is not there again", x.about(8), 0);
        Texts.put(x, Texts.times(" ", 300));
        x.image();
        x.hands();
        x.back();
        DUE.is("nor a full one", x.about(8), 0);
    }

    private static void faultIsNotInIt() {
        DUE.sentence("(all ..) but .. the latest FAULT.");
        CreasedPaper x = new CreasedPaper(4);
        Texts.done(x, "open;hold 0;");
        x.back();
        DUE.is("it stays", x.fault(0), 2);
        DUE.is("it stays", x.fault(1), 10);
        x.image();
        Texts.done(x, "hold 1;fold 0 left;");
        x.back();
        DUE.is("the later one stays", x.fault(0), 0);
        DUE.is("the later one stays", x.fault(1), -1);
        DUE.is("the later one stays", x.fault(2), 7);
    }

    private static void imageAnswersTheClock() {
        DUE.sentence("THE IMAGE is as all is now: the clock.");
        CreasedPaper x = new CreasedPaper(4);
        DUE.is("at first", x.image(), 0);
        x.hold(1000);
        DUE.is("now", x.image(), 1000);
        DUE.is("now again", x.image(), 1000);
        Acts.holdTo(x, Acts.LAST_TICK);
        DUE.is("at the end", x.image(), 100000);
        DUE.is("it takes no act", x.about(2), 100);
    }

    private static void backAnswersTheClock() {
        DUE.sentence("BACK to THE IMAGE (..): the clock.");
        CreasedPaper x = new CreasedPaper(4);
        DUE.is("at first", x.back(), 0);
        x.hold(5);
        x.image();
        x.hold(6);
        DUE.is("that of the image", x.back(), 5);
        DUE.is("that of the image", x.about(1), 5);
    }

    private static void imageStays() {
        DUE.sentence("(it stays)");
        CreasedPaper x = used();
        String was = Whole.of(x);
        x.image();
        for (int i = 0; i < 2; i++) {
            changeAll(x);
            DUE.is("the clock", x.back(), 7);
            DUE.same("back once more", Whole.of(x), was);
        }
        DUE.is("twice at once", x.back(), 7);
    }

    private static void backWithoutAnImage() {
        DUE.sentence("THE IMAGE is this (the new object).");
        CreasedPaper x = used();
        DUE.is("the clock", x.back(), 0);
        DUE.same("as if it were new", Whole.of(x), Whole.of(new CreasedPaper(6)));
    }

    private static void backFromTheEnd() {
        DUE.sentence("BACK: all is so again (the clock, too).");
        CreasedPaper x = new CreasedPaper(4);
        x.fold(2, true);
        x.image();
        Acts.holdTo(x, Acts.LAST_TICK);
        DUE.is("the end", x.open(), -1);
        DUE.is("back", x.back(), 1);
        DUE.is("ticks are left", x.open(), 2);
        DUE.is("act 2 is the next", x.about(2), 2);
        Acts.holdTo(x, Acts.LAST_TICK);
        x.image();
        DUE.is("back to the end", x.back(), 100000);
        DUE.is("none is left", x.fold(2, true), -4);
    }

    private static void backFromAllThatIsFull() {
        DUE.sentence("BACK: all is so again (what was full, too).");
        CreasedPaper x = new CreasedPaper(2);
        x.rules(100, 10, 1, 40);
        x.image();
        for (int i = 0; i < 6; i++) {
            x.sheet(1, 0, 0, 0, 0);
        }
        for (int i = 0; i < 100; i++) {
            x.see(1, 2);
        }
        x.fold(1, true);
        DUE.is("six sheets", x.sheet(1, 0, 0, 0, 0), -1);
        DUE.is("100 tellings", x.see(1, 1), -1);
        DUE.is("torn", x.about(4), 1);
        x.back();
        DUE.is("no sheet", x.about(7), 0);
        DUE.is("no telling", x.about(5), 0);
        DUE.is("not torn", x.about(4), 0);
        DUE.is("not creased", x.about(3), 0);
        DUE.is("a sheet", x.sheet(1, 0, 0, 0, 0), 0);
        DUE.is("a telling", x.see(1, 1), 1);
        DUE.is("it alone", x.orders(2, 1, -1, 0), 2);
        DUE.is("a fold", x.fold(1, true), 1);
    }

    private static void aboutEach() {
        DUE.sentence("0 L, 1 the clock, 2 ACTS, 3 POINTS that were CREASED, 4 TORN, 5 TIME, 6 THE LOOK, 7 SHEETS,"
                + " 8 bytes of the tape, 9 the lowest PLACE with a CELL, 10 the highest.");
        CreasedPaper fresh = new CreasedPaper(40);
        int[] first = {40, 0, 0, 0, 0, 0, 0, 0, 0, 0, 39};
        CreasedPaper x = used();
        x.feed(0, 0, 0, 0, 0);
        int[] told = {6, 7, 5, 3, 1, 2, 1, 1, 20, 2, 3};
        for (int what = 0; what <= 10; what++) {
            DUE.is("about(" + what + ") of a new one", fresh.about(what), first[what]);
            DUE.is("about(" + what + ")", x.about(what), told[what]);
        }
    }

    private static void aboutOthers() {
        DUE.sentence("-1000 for others.");
        CreasedPaper x = new CreasedPaper(4);
        for (int what : new int[] {-2, -1, 11, 12}) {
            DUE.is("about(" + what + ")", x.about(what), -1000);
        }
        for (int far : Acts.FAR) {
            DUE.is("about(" + far + ")", x.about(far), -1000);
        }
    }

    private static void placesBelowZero() {
        DUE.sentence("9 the lowest PLACE with a CELL, 10 the highest.");
        CreasedPaper x = new CreasedPaper(40);
        x.fold(1, true);
        DUE.is("lowest", x.about(9), -38);
        DUE.is("highest", x.about(10), 0);
        x.fold(-37, true);
        DUE.is("lowest", x.about(9), -75);
        DUE.is("highest", x.about(10), -38);
        CreasedPaper y = new CreasedPaper(40);
        y.fold(39, false);
        DUE.is("lowest", y.about(9), 39);
        DUE.is("highest", y.about(10), 77);
        CreasedPaper z = new CreasedPaper(2);
        z.fold(1, true);
        DUE.is("one place", z.about(9), 0);
        DUE.is("one place", z.about(10), 0);
    }

    private static void lastCall() {
        DUE.sentence("An object is used for at most 512 calls after it has been made");
        CreasedPaper x = new CreasedPaper(40);
        x.fold(20, true);
        x.image();
        for (int i = 3; i < 511; i++) {
            x.hold(1 + i % 3);
        }
        DUE.is("the 511th", x.back(), 1);
        DUE.is("the 512th", x.layers(0), 2);
    }
}
