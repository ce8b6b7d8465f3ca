import java.util.Arrays;
import java.util.List;

/**
 * Promises 10 to 13: the tape, texts and their FAULTS. Each sentence of the document that names
 * a boundary case has a test of its own.
 */
public final class HandsEdgesTest {
    private static final Due DUE = new Due("HandsEdgesTest");
    private static final String FOUR_OPEN = "again 1(again 1(again 1(again 1(";

    public static void main(String[] args) {
        bytesOfNumbers();
        bytesAreNotSigned();
        tapeIsFull();
        endOfTheTape();
        endOthers();
        longestTexts();
        blanks();
        letters();
        digits();
        emptyTexts();
        lines();
        ticks();
        rounds();
        numbersBeyondAllBounds();
        canNotStandThere();
        atTheEnd();
        fifthBracket();
        fortyFirstDo();
        leastOfOne();
        firstAsTheyAreComeTo();
        upTo300Acts();
        foldsThatStop();
        holdsThatStop();
        opensThatStop();
        tapeIsEmptyThen();
        nothingIsDone();
        faultWithout();
        faultAheadOfAny();
        textsAreReadAnew();
        faultOthers();
        faultOfTheDo();
        DUE.end();
    }

    private static void noFault(String text, int acts) {
        CreasedPaper x = new CreasedPaper(40);
        DUE.is("hands of " + text, Texts.done(x, text), acts);
        DUE.is("fault of " + text, x.fault(0), 0);
        DUE.is("place of " + text, x.fault(1), -1);
    }

    private static void faultOf(String text, int fault, int place) {
        CreasedPaper x = new CreasedPaper(40);
        DUE.is("hands of " + text, Texts.done(x, text), -1);
        DUE.is("fault of " + text, x.fault(0), fault);
        DUE.is("place of " + text, x.fault(1), place);
        DUE.is("the DO of " + text, x.fault(2), -1);
    }

    private static void bytesOfNumbers() {
        DUE.sentence("Twenty bytes come behind the tape, the highest of a first: how many it has.");
        CreasedPaper x = new CreasedPaper(8);
        // "fold" " 7 l" "eft;" "hold" " 19;"
        DUE.is("twenty", x.feed(0x666f6c64, 0x2037206c, 0x6566743b, 0x686f6c64, 0x2031393b), 20);
        DUE.is("two acts", x.hands(), 2);
        DUE.is("folded at 7", x.crease(7, 0), 1);
        DUE.is("held for 19", x.about(1), 20);
        for (int i = 0; i < 20; i++) {
            // A sign that is none, in one of the twenty places, with blanks elsewhere.
            byte[] bytes = new byte[20];
            Arrays.fill(bytes, (byte) 32);
            bytes[i] = '!';
            CreasedPaper y = new CreasedPaper(2);
            y.feed(Texts.word(bytes, 0), Texts.word(bytes, 4), Texts.word(bytes, 8), Texts.word(bytes, 12),
                    Texts.word(bytes, 16));
            DUE.is("a fault", y.hands(), -1);
            DUE.is("in its place", y.fault(1), i);
        }
    }

    private static void bytesAreNotSigned() {
        DUE.sentence("(Twenty bytes ..) the highest of a first");
        int blanks = 0x20202020;
        int[] words = {0x80202020, 0xff202020, 0xa0202020, 0x8a202020, 0xef202020, 0xb1202020, Integer.MIN_VALUE, -1};
        for (int word : words) {
            for (int place = 0; place < 20; place += 4) {
                int[] w = {blanks, blanks, blanks, blanks, blanks};
                w[place / 4] = word;
                CreasedPaper x = new CreasedPaper(2);
                x.feed(w[0], w[1], w[2], w[3], w[4]);
                DUE.is("a byte above 127 is no token", x.hands(), -1);
                DUE.is("of fault 1", x.fault(0), 1);
                DUE.is("in its place", x.fault(1), place);
            }
        }
        CreasedPaper x = new CreasedPaper(2);
        x.feed(0x2020ff20, blanks, blanks, blanks, blanks);
        DUE.is("within a number", x.hands(), -1);
        DUE.is("in its place", x.fault(1), 2);
    }

    private static void tapeIsFull() {
        DUE.sentence("NONE, and none come, if there would be more than 300.");
        CreasedPaper x = new CreasedPaper(2);
        for (int i = 1; i <= 15; i++) {
            DUE.is("feed", x.feed(0x20202020, 0x20202020, 0x20202020, 0x20202020, 0x20202020), 20 * i);
        }
        DUE.is("300 are full", x.feed(-1, -1, -1, -1, -1), -1);
        DUE.is("none came", x.about(8), 300);
        for (int n = 299; n > 280; n--) {
            x.end(n);
            DUE.is("no room behind " + n, x.feed(-1, -1, -1, -1, -1), -1);
            DUE.is("none came", x.about(8), n);
        }
        DUE.is("blanks alone", x.hands(), 0);
        DUE.is("empty", x.about(8), 0);
        for (int i = 1; i <= 15; i++) {
            x.feed(0x20202020, 0x20202020, 0x20202020, 0x20202020, 0x20202020);
        }
        x.end(280);
        DUE.is("room for twenty", x.feed(0x20202020, 0x20202020, 0x20202020, 0x20202020, -1), 300);
        DUE.is("they came", x.hands(), -1);
        DUE.is("the last four", x.fault(1), 296);
    }

    private static void endOfTheTape() {
        DUE.sentence("The tape has its first n bytes alone: n.");
        CreasedPaper x = new CreasedPaper(2);
        DUE.is("none of none", x.end(0), 0);
        x.feed(0x6f70656e, 0x3b6f7065, 0x6e3b2121, 0x21212121, 0x21212121);
        DUE.is("all", x.end(20), 20);
        DUE.is("ten", x.end(10), 10);
        DUE.is("ten", x.about(8), 10);
        DUE.is("the others are gone", x.end(11), -1);
        DUE.is("two openings", x.hands(), 2);
        x.feed(0x6f70656e, 0x21212121, 0x21212121, 0x21212121, 0x21212121);
        DUE.is("four", x.end(4), 4);
        DUE.is("twenty behind them", x.feed(0x3b202020, 0x20202020, 0x20202020, 0x20202020, 0x20202020), 24);
        DUE.is("one opening", x.hands(), 1);
        x.feed(0x21212121, 0x21212121, 0x21212121, 0x21212121, 0x21212121);
        DUE.is("none", x.end(0), 0);
        DUE.is("an empty text", x.hands(), 0);
        DUE.is("without a fault", x.fault(0), 0);
    }

    private static void endOthers() {
        DUE.sentence("NONE, and nothing is done, if it has not so many, or n is below 0.");
        CreasedPaper x = new CreasedPaper(2);
        DUE.is("one of none", x.end(1), -1);
        DUE.is("below 0", x.end(-1), -1);
        x.feed(0x6f70656e, 0x3b202020, 0x20202020, 0x20202020, 0x20202020);
        int[] others = {21, 22, 300, 301, -1, -2, -20};
        for (int n : others) {
            DUE.is("end " + n, x.end(n), -1);
            DUE.is("as it was", x.about(8), 20);
        }
        for (int n : Acts.FAR) {
            DUE.is("end " + n, x.end(n), -1);
            DUE.is("as it was", x.about(8), 20);
        }
        DUE.is("the text is there", x.hands(), 1);
        for (int i = 0; i < 15; i++) {
            x.feed(0, 0, 0, 0, 0);
        }
        DUE.is("more than there can be", x.end(301), -1);
        DUE.is("as many as there can be", x.end(300), 300);
    }

    private static void longestTexts() {
        DUE.sentence("HANDS: texts of up to 300 bytes.");
        noFault(Texts.times("open;", 40) + Texts.times(" ", 100), 40);
        noFault(Texts.times(" ", 100) + Texts.times("open;", 40), 40);
        noFault(Texts.times(" ", 300), 0);
        noFault("hold " + Texts.times("0", 293) + "1;", 1);
        faultOf("hold " + Texts.times("0", 294) + "1", 1, 300);
        faultOf("hold " + Texts.times("9", 295), 2, 5);
        faultOf(Texts.times("o", 300), 1, 0);
        faultOf(Texts.times("\n", 299) + ";", 1, 299);
        faultOf(Texts.times(" ", 296) + "open", 1, 300);
    }

    private static void blanks() {
        DUE.sentence("TOKENS, blanks (32, 10) aside");
        noFault(" \n open \n ; \n ", 1);
        noFault("again\n2\n(\nopen\n;\n)", 2);
        noFault("again2(fold1right;open;)", 4);
        faultOf("op en;", 1, 0);
        faultOf("hold 1 0;", 1, 7);
        for (int b = 0; b < 256; b++) {
            if (b == 32 || b == 10) {
                noFault("open;" + (char) b, 1);
            } else {
                faultOf("open;" + (char) b, 1, 5);
            }
        }
    }

    private static void letters() {
        DUE.sentence("letters a .. z, A .. Z one behind the other (one TOKEN)");
        for (int b = 0; b < 256; b++) {
            String text = "open" + (char) b + ";";
            boolean letter = b >= 'a' && b <= 'z' || b >= 'A' && b <= 'Z';
            if (b == 32 || b == 10) {
                noFault(text, 1);
            } else if (b == ';') {
                faultOf(text, 1, 5);
            } else {
                faultOf(text, 1, letter ? 0 : 4);
            }
        }
    }

    private static void digits() {
        DUE.sentence("digits likewise (NUMBERS)");
        for (int b = 0; b < 256; b++) {
            String text = "hold 1" + (char) b + ";";
            if (b == 32 || b == 10 || b >= '0' && b <= '9') {
                noFault(text, 1);
            } else {
                faultOf(text, 1, b == ';' ? 7 : 6);
            }
        }
        for (int digit = 0; digit <= 9; digit++) {
            CreasedPaper x = new CreasedPaper(2);
            Texts.done(x, "hold 1" + digit + ";");
            DUE.is("its value", x.about(1), 10 + digit);
        }
    }

    private static void emptyTexts() {
        DUE.sentence("TEXT: {DO}. .. again NUMBER ( {DO} )");
        noFault("", 0);
        noFault(" ", 0);
        noFault("\n", 0);
        noFault("again 1()", 0);
        noFault("again 50 ( \n )", 0);
        noFault("again 50(again 50(again 50(again 50())))", 0);
        noFault("again 50(again 50(again 50(again 50()))open;)", 50);
    }

    private static void lines() {
        DUE.sentence("fold NUMBER right ; or fold NUMBER left ; (the LINE, 0 .. 80)");
        noFault("fold 0 right;", 0);
        noFault("fold 0 left;", 0);
        noFault("fold 80 right;", 0);
        noFault("fold 80 left;", 0);
        noFault("fold 1 right;", 1);
        faultOf("fold 81 right;", 2, 5);
        faultOf("fold 81 left;", 2, 5);
        CreasedPaper x = new CreasedPaper(40);
        DUE.is("to places 39 .. 77", Texts.done(x, "fold 39 left;fold 77 left;"), 2);
        DUE.is("to places 77 .. 114", x.about(10), 114);
        DUE.is("80 can be done", Texts.done(x, "fold 80 right;"), 1);
        DUE.is("down to 45", x.about(9), 45);
    }

    private static void ticks() {
        DUE.sentence("hold NUMBER ; (1 .. 1000)");
        noFault("hold 1;", 1);
        noFault("hold 1000;", 1);
        faultOf("hold 0;", 2, 5);
        faultOf("hold 1001;", 2, 5);
        faultOf("hold 000;", 2, 5);
    }

    private static void rounds() {
        DUE.sentence("again NUMBER ( {DO} ) (1 .. 50 times)");
        noFault("again 1(open;)", 1);
        noFault("again 50(open;)", 50);
        faultOf("again 0(open;)", 2, 6);
        faultOf("again 51(open;)", 2, 6);
    }

    /** Numbers that would be small again, were they reckoned in ints or longs that wrap around. */
    private static void numbersBeyondAllBounds() {
        DUE.sentence("2 a NUMBER that isn't one of those told.");
        String[] numbers = {"4294967297", "2147483648", "2147483649", "18446744073709551617", "9223372036854775809",
            "65537", "257", "100000", "1000000", "99999999999999999999", "10000000000000000000000000000000000000001"};
        for (String number : numbers) {
            faultOf("fold " + number + " right;", 2, 5);
            faultOf("again " + number + "(open;)", 2, 6);
            if (!number.equals("257")) {
                faultOf("hold " + number + ";", 2, 5);
            }
        }
        noFault("hold 257;", 1);
        noFault("hold 00000000000000000000001000;", 1);
    }

    /** Every kind of token, and the end, in every state of a text; END stands for the end. */
    private static void canNotStandThere() {
        DUE.sentence("1 it can't stand there, or is none.");
        List<String> tokens = List.of("fold", "hold", "open", "again", "right", "left", "3", "99999", "(", ")", ";",
                "END", "$", "x", "FOLD", "folds", "fol", "Right", "lefts");
        List<String> dosOrEnd = List.of("fold", "hold", "open", "again", "END");
        List<String> dosOrClose = List.of("fold", "hold", "open", "again", ")");
        afterIt("", tokens, dosOrEnd);
        afterIt("fold", tokens, List.of("3", "99999"));
        afterIt("fold 3", tokens, List.of("right", "left"));
        afterIt("fold 3 right", tokens, List.of(";"));
        afterIt("fold 3 left", tokens, List.of(";"));
        afterIt("fold 3 left;", tokens, dosOrEnd);
        afterIt("hold", tokens, List.of("3", "99999"));
        afterIt("hold 3", tokens, List.of(";"));
        afterIt("hold 3;", tokens, dosOrEnd);
        afterIt("open", tokens, List.of(";"));
        afterIt("open;", tokens, dosOrEnd);
        afterIt("again", tokens, List.of("3", "99999"));
        afterIt("again 3", tokens, List.of("("));
        afterIt("again 3(", tokens, dosOrClose);
        afterIt("again 3(open;", tokens, dosOrClose);
        afterIt("again 3(again 2(open;)", tokens, dosOrClose);
        afterIt("again 3()", tokens, dosOrEnd);
    }

    private static void afterIt(String text, List<String> tokens, List<String> allowed) {
        for (String token : tokens) {
            String whole = text + " " + (token.equals("END") ? "" : token);
            if (allowed.contains(token)) {
                CreasedPaper x = new CreasedPaper(40);
                Texts.done(x, whole);
                boolean refused = x.fault(0) == 1 && x.fault(1) <= text.length() + 1;
                DUE.is(token + " may stand behind " + text, refused, false);
            } else {
                faultOf(whole, 1, text.length() + 1);
            }
        }
    }

    private static void atTheEnd() {
        DUE.sentence("at the TOKEN's first byte (of the end at the length)");
        faultOf("fold", 1, 4);
        faultOf("fold ", 1, 5);
        faultOf("fold  \n \n", 1, 9);
        faultOf("again 2(open;", 1, 13);
        faultOf("again 2(open; ", 1, 14);
        faultOf("  opens;", 1, 2);
        faultOf("\n\nhold  1001;", 2, 8);
        faultOf("open;   )", 1, 8);
    }

    private static void fifthBracket() {
        DUE.sentence("3 the 5th ( that is open around one another (at it).");
        noFault(FOUR_OPEN + "open;))))", 1);
        faultOf(FOUR_OPEN + "again 1(open;)))))", 3, 39);
        faultOf(FOUR_OPEN + "again 1  (", 3, 41);
        noFault(FOUR_OPEN + ")again 1(open;)))again 1(open;))", 2);
        noFault("again 1(again 1(again 1(again 1()again 1()again 1())again 1(again 1()))again 1(again 1(again 1())))",
                0);
        faultOf("again 1(again 1(again 1(again 1()again 1(again 1(", 3, 48);
    }

    private static void fortyFirstDo() {
        DUE.sentence("4 the 41st DO, inner ones counted as they are told (at its first TOKEN).");
        String forty = Texts.times("open;", 40);
        noFault(forty, 40);
        faultOf(forty + "open;", 4, 200);
        faultOf(forty + "\n open", 4, 202);
        noFault("again 2(" + Texts.times("open;", 39) + ")", 78);
        faultOf("again 2(" + Texts.times("open;", 40) + ")", 4, 203);
        faultOf("again 2(" + Texts.times("open;", 39) + ")hold 1;", 4, 204);
        noFault(Texts.times("again1()", 20) + Texts.times("open;", 20), 20);
        faultOf(Texts.times("again1()", 20) + Texts.times("open;", 21), 4, 260);
        noFault(FOUR_OPEN + Texts.times("open;", 36) + "))))", 36);
        faultOf(FOUR_OPEN + Texts.times("open;", 37) + "))))", 4, 212);
        for (String word : new String[] {"fold", "hold", "open", "again"}) {
            faultOf(forty + word, 4, 200);
        }
    }

    private static void leastOfOne() {
        DUE.sentence("FAULTS, .. of one the least");
        String forty = Texts.times("open;", 40);
        for (String token : new String[] {"right", "7", "(", ")", ";", "!", "opens"}) {
            faultOf(forty + token, 1, 200);
        }
        faultOf("open 1001;", 1, 5);
        faultOf("fold 3 81;", 1, 7);
        faultOf(FOUR_OPEN + "(", 1, 32);
        faultOf(FOUR_OPEN + "again 1 1(", 1, 40);
    }

    private static void firstAsTheyAreComeTo() {
        DUE.sentence("FAULTS, the first as TOKENS are come to");
        faultOf("hold 0;opens;", 2, 5);
        faultOf("opens;hold 0;", 1, 0);
        faultOf("fold 81 up!", 2, 5);
        faultOf("again 51 open;", 2, 6);
        faultOf(FOUR_OPEN + "again 51(", 2, 38);
        faultOf(FOUR_OPEN + "again 50(hold 0;", 3, 40);
        faultOf(FOUR_OPEN + Texts.times("open;", 36) + "again 1(", 4, 212);
        faultOf(FOUR_OPEN + Texts.times("open;", 35) + "again 1(", 3, 214);
        faultOf(Texts.times("open;", 40) + "hold 0;", 4, 200);
        faultOf(Texts.times("open;", 39) + "hold 0;open;", 2, 200);
    }

    private static void upTo300Acts() {
        DUE.sentence("A text is done act by act, up to 300 acts");
        CreasedPaper x = new CreasedPaper(4);
        DUE.is("299", Texts.done(x, "again 23(again 13(open;))"), 299);
        DUE.is("all could", x.fault(2), -1);
        DUE.is("300", Texts.done(x, "again 6(again 50(open;))"), 300);
        DUE.is("all could", x.fault(2), -1);
        DUE.is("clock", x.about(1), 599);
        DUE.is("301", Texts.done(x, "again 6(again 50(open;))hold 9;open;"), 300);
        DUE.is("the 301st is not done", x.about(1), 899);
        DUE.is("it stopped there", x.fault(2), 24);
        DUE.is("without a fault", x.fault(0), 0);
        DUE.is("300 more", Texts.done(x, "again 50(again 50(again 50(again 50(hold 1;))))"), 300);
        DUE.is("acts", x.about(2), 1199);
    }

    private static void foldsThatStop() {
        DUE.sentence("until one can't be done (a FOLD without CELLS on both sides, or JAMMED ..)");
        CreasedPaper x = new CreasedPaper(8);
        DUE.is("no cells above", Texts.done(x, "hold 5;fold 8 right;open;"), 1);
        DUE.is("there", x.fault(2), 7);
        DUE.is("what was done stays", x.about(1), 5);
        DUE.is("no cells below", Texts.done(x, "fold 0 right;"), 0);
        DUE.is("there", x.fault(2), 0);
        x.rules(100, 10, 1, 1);
        DUE.is("thick", Texts.done(x, "open; fold 4 right;open;"), 1);
        DUE.is("there", x.fault(2), 6);
        x.rules(100, 10, 1, 40);
        DUE.is("torn", Texts.done(x, "again 3(fold 4 right;open;)"), 2);
        DUE.is("there", x.fault(2), 8);
        DUE.is("acts", x.about(2), 4);
        Acts.holdTo(x, 99999);
        DUE.is("the last tick", Texts.done(x, "fold 1 left;fold 3 left;open;"), 1);
        DUE.is("there", x.fault(2), 12);
        DUE.is("folded once", x.about(10) * 10 + x.about(9), 71);
    }

    private static void holdsThatStop() {
        DUE.sentence("HOLD, .. beyond the TICKS");
        CreasedPaper x = new CreasedPaper(8);
        Acts.holdTo(x, 99990);
        DUE.is("ten are left, eleven are held", Texts.done(x, " hold 11;"), 0);
        DUE.is("there", x.fault(2), 1);
        DUE.is("none of them", x.about(1), 99990);
        DUE.is("four, and seven", Texts.done(x, "hold 4;hold 7;hold 1;"), 1);
        DUE.is("there", x.fault(2), 7);
        DUE.is("four", x.about(1), 99994);
        DUE.is("six", Texts.done(x, "hold 6;"), 1);
        DUE.is("all could", x.fault(2), -1);
        DUE.is("one", Texts.done(x, "hold 1;"), 0);
        DUE.is("there", x.fault(2), 0);
    }

    private static void opensThatStop() {
        DUE.sentence(".. OPEN beyond the TICKS");
        CreasedPaper x = new CreasedPaper(8);
        x.fold(4, true);
        Acts.holdTo(x, 99999);
        x.image();
        DUE.is("one is left", Texts.done(x, "open;open;"), 1);
        DUE.is("there", x.fault(2), 5);
        x.back();
        x.hold(1);
        DUE.is("none is left", Texts.done(x, "again 2(open;)"), 0);
        DUE.is("there", x.fault(2), 8);
        DUE.is("still folded", x.crease(4, 6), 1);
    }

    private static void tapeIsEmptyThen() {
        DUE.sentence("The tape (empty then) is a text that is done: how many acts were.");
        CreasedPaper x = new CreasedPaper(4);
        DUE.is("an empty tape", x.hands(), 0);
        String[] texts = {"open;", "fold 0 left;", "oops", "again 50(again 50(open;))", Texts.times(" ", 300)};
        for (String text : texts) {
            Texts.put(x, text);
            DUE.is("on the tape", x.about(8), text.length());
            x.hands();
            DUE.is("empty then", x.about(8), 0);
            DUE.is("nothing is left of it", x.end(1), -1);
            DUE.is("twenty go in", x.feed(0, 0, 0, 0, 0), 20);
        }
    }

    private static void nothingIsDone() {
        DUE.sentence("NONE: it has a FAULT, nothing is done.");
        CreasedPaper x = new CreasedPaper(6);
        x.fold(3, true);
        String was = Whole.withoutTape(x);
        String[] texts = {"open;oops", "open;hold 1001;", "open;" + FOUR_OPEN + "again 1(",
            Texts.times("open;", 41), "open;again 2(open;"};
        for (String text : texts) {
            DUE.is(text, Texts.done(x, text), -1);
            DUE.same("behind " + text, Whole.withoutTape(x), was);
        }
    }

    private static void faultWithout() {
        DUE.sentence("0 its FAULT (0 without), 1 its place (NONE without)");
        CreasedPaper x = new CreasedPaper(6);
        Texts.done(x, "oops");
        DUE.is("fault", x.fault(0), 1);
        DUE.is("place 0 is a place", x.fault(1), 0);
        Texts.done(x, "");
        DUE.is("without", x.fault(0), 0);
        DUE.is("without", x.fault(1), -1);
        Texts.done(x, "fold 0 left;");
        DUE.is("what can't be done is no fault", x.fault(0), 0);
        DUE.is("what can't be done is no fault", x.fault(1), -1);
    }

    private static void faultAheadOfAny() {
        DUE.sentence("Of the latest text that was read: .. NONE .. ahead of any.");
        CreasedPaper x = new CreasedPaper(6);
        Texts.put(x, "oops");
        for (int what = -1; what <= 3; what++) {
            DUE.is("fault(" + what + ")", x.fault(what), -1);
        }
        x.image();
        x.hands();
        DUE.is("read", x.fault(0), 1);
        x.back();
        DUE.is("the image does not hold it", x.fault(0), 1);
        Texts.put(x, "hold 0;");
        DUE.is("not read yet", x.fault(0), 1);
        x.hands();
        DUE.is("the latest", x.fault(0), 2);
        CreasedPaper y = new CreasedPaper(6);
        y.hands();
        DUE.is("an empty one was read", y.fault(0), 0);
    }

    /** Nothing of a text that had a FAULT, in the midst of its brackets, is left for the next one. */
    private static void textsAreReadAnew() {
        DUE.sentence("Of the latest text that was read");
        String[] broken = {FOUR_OPEN, FOUR_OPEN + "again 1(", "again 2(" + Texts.times("open;", 40), "fold 3",
            "again 50"};
        for (String text : broken) {
            CreasedPaper x = new CreasedPaper(6);
            DUE.is("broken", Texts.done(x, text), -1);
            DUE.is("a text without brackets", Texts.done(x, Texts.times("open;", 40)), 40);
            DUE.is("broken", Texts.done(x, text), -1);
            DUE.is("a bracket that closes none", Texts.done(x, ")"), -1);
            DUE.is("its fault", x.fault(0), 1);
            DUE.is("its place", x.fault(1), 0);
            DUE.is("broken", Texts.done(x, text), -1);
            DUE.is("four that are open", Texts.done(x, FOUR_OPEN + "open;))))"), 1);
        }
    }

    private static void faultOthers() {
        DUE.sentence("NONE for others");
        CreasedPaper x = new CreasedPaper(6);
        Texts.done(x, "hold 0;");
        DUE.is("fault(-1)", x.fault(-1), -1);
        DUE.is("fault(3)", x.fault(3), -1);
        for (int far : Acts.FAR) {
            DUE.is("fault(" + far + ")", x.fault(far), -1);
        }
    }

    private static void faultOfTheDo() {
        DUE.sentence("2 the first byte of the DO that couldn't be done (NONE: all could, or a FAULT; of more than 300:"
                + " the first one beyond).");
        CreasedPaper x = new CreasedPaper(6);
        Texts.done(x, "fold 0 left;");
        DUE.is("the first byte of all", x.fault(2), 0);
        Texts.done(x, "open;");
        DUE.is("all could", x.fault(2), -1);
        Texts.done(x, "again 2( fold 1 left; again 2( hold 1; fold 1 left;))");
        DUE.is("the inner one, not the again", x.fault(2), 39);
        Texts.done(x, "oops");
        DUE.is("a fault", x.fault(2), -1);
        Texts.done(x, "again 50(again 3(open;hold 1;))again 7(again 2(hold 3;))");
        DUE.is("the first one beyond", x.fault(2), 47);
        Texts.done(x, "again 50(again 50(open;hold 1;hold 2;hold 3;hold 4;hold 5;hold 6;))");
        DUE.is("300 is 42 rounds and six", x.fault(2), 18 + 5 + 5 * 7);
        Texts.done(x, "again 6(again 50(open;))fold 0 left;");
        DUE.is("beyond, and it couldn't be done at all", x.fault(2), 24);
        Texts.done(x, "again 6(again 50(open;))again 50()");
        DUE.is("nothing is beyond", x.fault(2), -1);
    }
}
