/** Promises 10 to 13: the tape, texts, and their faults. */
public final class HandsTest {
    private static final Due DUE = new Due("HandsTest");

    public static void main(String[] args) {
        theTape();
        textsThatAreDone();
        textsThatStop();
        emptyRounds();
        faults();
        faultsOfDepthAndCount();
        faultsAreOfTheLatestText();
        DUE.end();
    }

    private static void theTape() {
        CreasedPaper x = new CreasedPaper(8);
        DUE.is("empty", x.about(8), 0);
        DUE.is("end of more", x.end(1), -1);
        DUE.is("end below 0", x.end(-1), -1);
        for (int i = 1; i <= 15; i++) {
            DUE.is("feed", x.feed(-1, 0, 0, 0, 0), 20 * i);
        }
        DUE.is("full", x.feed(0, 0, 0, 0, 0), -1);
        DUE.is("none came", x.about(8), 300);
        DUE.is("end of more", x.end(301), -1);
        DUE.is("end", x.end(281), 281);
        DUE.is("twenty don't go in", x.feed(0, 0, 0, 0, 0), -1);
        DUE.is("still", x.about(8), 281);
        DUE.is("end", x.end(280), 280);
        DUE.is("twenty go in", x.feed(0, 0, 0, 0, 0), 300);
        DUE.is("all", x.end(300), 300);
        DUE.is("none", x.end(0), 0);
        DUE.is("gone", x.end(1), -1);
        // "op" "en;" across two feeds: the highest byte of a is the first.
        x.feed(0x6f700000, 0, 0, 0, 0);
        x.end(2);
        x.feed(0x656e3b20, 0x20200a0a, 0x20202020, 0x20202020, 0x20202020);
        DUE.is("22 bytes", x.about(8), 22);
        DUE.is("one act", x.hands(), 1);
        DUE.is("empty then", x.about(8), 0);
        DUE.is("an empty text", x.hands(), 0);
        DUE.is("no fault", x.fault(0), 0);
        Texts.put(x, "oops");
        DUE.is("a fault", x.hands(), -1);
        DUE.is("empty then, too", x.about(8), 0);
    }

    private static void textsThatAreDone() {
        CreasedPaper x = new CreasedPaper(8);
        DUE.is("all kinds", Texts.done(x, "fold 4 right;hold 10;fold 2left ;open\n;"), 4);
        DUE.is("fault", x.fault(0), 0);
        DUE.is("place", x.fault(1), -1);
        DUE.is("stop", x.fault(2), -1);
        DUE.is("clock", x.about(1), 13);
        DUE.is("acts", x.about(2), 4);
        DUE.is("by the third act", x.crease(2, 4), 2);
        DUE.is("by the third act", x.crease(6, 4), 2);
        DUE.is("signs", x.crease(2, 0), 1);
        DUE.is("signs", x.crease(6, 0), 2);
        DUE.is("at tick 11", x.crease(2, 3), 11);
        DUE.is("rounds", Texts.done(x, "again 3 ( fold 4 right; again 2 ( hold 1; ) open; ) hold 1000;"),
                13);
        DUE.is("acts", x.about(2), 17);
        DUE.is("wear", x.crease(4, 2), 4);
        DUE.is("leading zeros", Texts.done(x, "hold 0000000000000000000000000000000001;"), 1);
        DUE.is("line 0 can be told", Texts.done(x, "fold 0 left;"), 0);
        DUE.is("but not done", x.fault(2), 0);
        DUE.is("line 80 can be told", Texts.done(x, "fold 80 left;"), 0);
        DUE.is("no fault", x.fault(0), 0);
        DUE.is("50 rounds", Texts.done(x, "again 50(open;)"), 50);
        DUE.is("blanks alone", Texts.done(x, " \n "), 0);
        DUE.is("no fault", x.fault(0), 0);
        DUE.is("four brackets", Texts.done(x, "again 1(again 1(again 1(again 1(open;))))open;"), 2);
        DUE.is("one behind the other", Texts.done(x, Texts.times("again 1()", 33)), 0);
        DUE.is("forty", Texts.done(x, Texts.times("open;", 40)), 40);
    }

    private static void textsThatStop() {
        CreasedPaper x = new CreasedPaper(8);
        DUE.is("no cells", Texts.done(x, "fold 4 right; fold 4 right; open;"), 1);
        DUE.is("at the second", x.fault(2), 14);
        DUE.is("no fault", x.fault(0), 0);
        DUE.is("no place", x.fault(1), -1);
        DUE.is("not opened", x.about(10), 3);
        x.rules(100, 10, 2, 40);
        DUE.is("torn", Texts.done(x, "again 9 (open; fold 4 right;)"), 3);
        DUE.is("at the fold", x.fault(2), 15);
        x.rules(100, 10, 100, 2);
        DUE.is("thick", Texts.done(x, "open; fold 3 right; fold 2 right;"), 2);
        DUE.is("at the second fold", x.fault(2), 20);
        CreasedPaper y = new CreasedPaper(8);
        DUE.is("the clock ends", Texts.done(y, "again 50(hold 1000;) again 50(hold 999;hold 1;)hold 1;"),
                150);
        DUE.is("at the last", y.fault(2), 47);
        DUE.is("clock", y.about(1), 100000);
        DUE.is("open stops", Texts.done(y, " open;"), 0);
        DUE.is("there", y.fault(2), 1);
        DUE.is("fold stops", Texts.done(y, "fold 1 right;"), 0);
        DUE.is("there", y.fault(2), 0);
        CreasedPaper z = new CreasedPaper(8);
        DUE.is("300", Texts.done(z, "again 50 (again 6 (open;))"), 300);
        DUE.is("all could", z.fault(2), -1);
        DUE.is("300 and no act", Texts.done(z, "again 50 (again 6 (open;)) again 50 (again 2 ())"), 300);
        DUE.is("all could", z.fault(2), -1);
        DUE.is("301", Texts.done(z, "again 50 (again 6 (open;)) again 2 (hold 1;)"), 300);
        DUE.is("the first beyond", z.fault(2), 36);
        DUE.is("acts", z.about(2), 900);
        DUE.is("far more", Texts.done(z, "again 50(again 50(again 50(again 50(open;hold 1;))))"), 300);
        DUE.is("the first beyond", z.fault(2), 36);
        DUE.is("odd", Texts.done(z, "open;again 50(again 50(again 50(again 50(open;hold 1;))))"), 300);
        DUE.is("the first beyond", z.fault(2), 46);
    }

    private static void emptyRounds() {
        CreasedPaper x = new CreasedPaper(8);
        String empty = "again 50(again 50(again 50(again 50())))";
        for (int i = 0; i < 50; i++) {
            DUE.is("nothing", Texts.done(x, Texts.times(empty, 7)), 0);
        }
        DUE.is("something", Texts.done(x, "again 50(again 50(again 50(again 50()))open;)"), 50);
    }

    private static void faultOf(String text, int fault, int place) {
        CreasedPaper x = new CreasedPaper(8);
        DUE.is(text, Texts.done(x, text), -1);
        DUE.is("fault of " + text, x.fault(0), fault);
        DUE.is("place of " + text, x.fault(1), place);
        DUE.is("stop of " + text, x.fault(2), -1);
        DUE.is("acts of " + text, x.about(2), 0);
        DUE.is("clock of " + text, x.about(1), 0);
    }

    private static void faults() {
        faultOf("open;fold", 1, 9);
        faultOf("open", 1, 4);
        faultOf("open  \n", 1, 7);
        faultOf("open;;", 1, 5);
        faultOf("Open;", 1, 0);
        faultOf("opened;", 1, 0);
        faultOf("ope;", 1, 0);
        faultOf("open 1;", 1, 5);
        faultOf("1;", 1, 0);
        faultOf("fold right;", 1, 5);
        faultOf("fold 4;", 1, 6);
        faultOf("fold 4 up;", 1, 7);
        faultOf("fold 4 Right;", 1, 7);
        faultOf("fold 4 right", 1, 12);
        faultOf("fold 81 right;", 2, 5);
        faultOf("fold 99999999999999999999 up;", 2, 5);
        faultOf("fold 4294967300 right;", 2, 5);
        faultOf("fold 18446744073709551620 right;", 2, 5);
        faultOf("hold 0;", 2, 5);
        faultOf("hold 1001;", 2, 5);
        faultOf("hold 00;", 2, 5);
        faultOf("hold;", 1, 4);
        faultOf("hold -1;", 1, 5);
        faultOf("again 0 (open;)", 2, 6);
        faultOf("again 51 (open;)", 2, 6);
        faultOf("again (open;)", 1, 6);
        faultOf("again 2 open;", 1, 8);
        faultOf("again 2 (open;", 1, 14);
        faultOf("again 2 (open;))", 1, 15);
        faultOf("again 2 (open);", 1, 13);
        faultOf("again 2 (open;);", 1, 15);
        faultOf(")", 1, 0);
        faultOf("(open;)", 1, 0);
        faultOf("open;\topen;", 1, 5);
        faultOf("open;\r\n", 1, 5);
        faultOf("open;.", 1, 5);
        faultOf("open;\u00e9", 1, 5);
        faultOf("open;\0", 1, 5);
        faultOf("openfold 2 right;", 1, 0);
        faultOf("hold 5 0;", 1, 7);
        faultOf("hold5x;", 1, 5);
        faultOf("hold 1;hold 0;\t", 2, 12);
        for (char last : "azAZ".toCharArray()) {
            faultOf("open" + last + ";", 1, 0);
        }
        for (char last : "@[`{/:09".toCharArray()) {
            faultOf("open" + last + ";", 1, 4);
        }
        faultOf("hold 1/;", 1, 6);
        faultOf("hold 1:;", 1, 6);
        faultOf("hold 1009;", 2, 5);
    }

    private static void faultsOfDepthAndCount() {
        String four = "again 1(again 1(again 1(again 1(";
        faultOf(four + "again 1(open;)))))", 3, 39);
        faultOf(four + "again 0(open;)))))", 2, 38);
        faultOf(four + "again 1 open;)))))", 1, 40);
        faultOf(four + ")again 1(open;again 1(", 3, 53);
        String forty = Texts.times("open;", 40);
        faultOf(forty + "open;", 4, 200);
        faultOf(forty + "  fold 99 up", 4, 202);
        faultOf(forty + "opens;", 1, 200);
        faultOf(forty + "again", 4, 200);
        faultOf(forty + ";", 1, 200);
        faultOf("again 2(" + Texts.times("open;", 39) + ")open;", 4, 204);
        faultOf("again 2(" + Texts.times("open;", 40) + ")", 4, 203);
        CreasedPaper x = new CreasedPaper(8);
        DUE.is("forty with again", Texts.done(x, "again 2(" + Texts.times("open;", 39) + ")"), 78);
    }

    private static void faultsAreOfTheLatestText() {
        CreasedPaper x = new CreasedPaper(8);
        for (int what = -1; what <= 3; what++) {
            DUE.is("ahead of any", x.fault(what), -1);
        }
        Texts.done(x, "hold 0;");
        DUE.is("fault", x.fault(0), 2);
        x.image();
        x.back();
        DUE.is("stays over back", x.fault(0), 2);
        DUE.is("stays over back", x.fault(1), 5);
        x.open();
        Texts.put(x, "bad");
        DUE.is("not read yet", x.fault(0), 2);
        x.hands();
        DUE.is("read", x.fault(0), 1);
        DUE.is("read", x.fault(1), 0);
        Texts.done(x, "fold 0 left;");
        DUE.is("new", x.fault(0), 0);
        DUE.is("new", x.fault(1), -1);
        DUE.is("new", x.fault(2), 0);
        Texts.done(x, "bad");
        DUE.is("a fault, so none", x.fault(2), -1);
        int[] others = {-1, 3, Integer.MIN_VALUE, Integer.MAX_VALUE};
        for (int what : others) {
            DUE.is("others", x.fault(what), -1);
        }
    }
}
