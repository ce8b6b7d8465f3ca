/** Promises 24 to 26: the image, the way back, and what is told about all. */
public final class ImageTest {
    private static final Due DUE = new Due("ImageTest");

    public static void main(String[] args) {
        imageHoldsAll();
        imageStays();
        tapeAndFaultAreNotInIt();
        about();
        DUE.end();
    }

    private static CreasedPaper worn() {
        CreasedPaper x = new CreasedPaper(10);
        x.rules(200, 20, 2, 12);
        x.fold(5, true);
        x.open();
        x.fold(5, false);
        x.hold(3);
        x.fold(7, true);
        x.sheet(2, 10, 0, 0, 0);
        x.see(1, 0);
        x.see(2, 1);
        x.look(1);
        return x;
    }

    private static void imageHoldsAll() {
        CreasedPaper x = worn();
        String was = all(x);
        DUE.is("image", x.image(), x.about(1));
        DUE.is("nothing changed", was.equals(all(x)), true);
        x.rules(0, 0, 1000, 40);
        x.open();
        x.fold(3, true);
        x.hold(100);
        x.sheet(3, 0, 0, 0, 0);
        x.see(2, 2);
        DUE.is("changed", was.equals(all(x)), false);
        DUE.is("back", x.back(), 7);
        is("all is so again", all(x), was);
        x.hold(2);
        CreasedPaper y = worn();
        y.hold(2);
        is("rules too", all(x), all(y));
        x.see(1, 1);
        y.see(1, 1);
        is("what was told too", all(x), all(y));
        x.open();
        DUE.is("torn too", x.fold(5, true), -3);
        DUE.is("thick too", x.rules(0, 0, 1, 40), true);
        x.back();
        x.open();
        x.fold(8, true);
        x.fold(6, true);
        x.fold(5, true);
        CreasedPaper z = worn();
        z.open();
        z.fold(8, true);
        z.fold(6, true);
        z.fold(5, true);
        is("thick of the image", all(x), all(z));
    }

    private static void imageStays() {
        CreasedPaper x = new CreasedPaper(6);
        x.fold(3, true);
        x.image();
        for (int i = 0; i < 3; i++) {
            DUE.is("changes", x.fold(2, true) > 0, true);
            DUE.is("back", x.back(), 1);
            DUE.is("as it was", x.about(9), 0);
            DUE.is("as it was", x.layers(0), 2);
        }
        x.open();
        DUE.is("a new image", x.image(), 2);
        x.fold(1, true);
        DUE.is("back to the new one", x.back(), 2);
        DUE.is("flat", x.about(10), 5);
    }

    private static void tapeAndFaultAreNotInIt() {
        CreasedPaper x = new CreasedPaper(6);
        Texts.done(x, "hold 0;");
        Texts.put(x, "open;");
        x.image();
        Texts.put(x, "open;open;");
        DUE.is("back", x.back(), 0);
        DUE.is("the tape stays", x.about(8), 10);
        DUE.is("and is done", x.hands(), 2);
        DUE.is("back", x.back(), 0);
        DUE.is("the tape is empty", x.about(8), 0);
        DUE.is("the fault stays", x.fault(0), 0);
        DUE.is("the fault stays", x.fault(2), -1);
    }

    private static void about() {
        CreasedPaper x = worn();
        x.feed(0, 0, 0, 0, 0);
        int[] told = {10, 7, 5, 3, 1, 2, 1, 1, 20, 4, 6};
        for (int what = 0; what < told.length; what++) {
            DUE.is("about " + what, x.about(what), told[what]);
        }
        int[] others = {-1, 11, Integer.MIN_VALUE, Integer.MAX_VALUE};
        for (int what : others) {
            DUE.is("about " + what, x.about(what), -1000);
        }
    }

    private static void is(String what, String got, String want) {
        DUE.is(what + "\n" + got + "\n" + want, got.equals(want), true);
    }

    /** All that can be asked for of the state, tape and fault aside. */
    private static String all(CreasedPaper x) {
        StringBuilder b = new StringBuilder();
        for (int what = 0; what <= 10; what++) {
            b.append(what == 8 ? 0 : x.about(what)).append(' ');
        }
        for (int u = 0; u < x.about(0); u++) {
            for (int what = 0; what < 3; what++) {
                b.append(x.cell(u, what)).append(' ');
            }
            for (int what = 0; what < 7; what++) {
                b.append(x.crease(u, what)).append(' ');
            }
        }
        for (int s = 0; s < 6; s++) {
            b.append(x.torque(s, 17)).append(' ');
        }
        b.append(x.orders(4, 2, -1, 0)).append(' ').append(x.next(5, 2));
        return b.toString();
    }
}
