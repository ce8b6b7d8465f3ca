import java.nio.charset.StandardCharsets;

/** Puts texts on the tape of a paper. */
final class Texts {
    private Texts() {
    }

    static int put(CreasedPaper paper, String text) {
        paper.end(0);
        byte[] bytes = text.getBytes(StandardCharsets.ISO_8859_1);
        for (int i = 0; i < bytes.length; i += 20) {
            paper.feed(word(bytes, i), word(bytes, i + 4), word(bytes, i + 8), word(bytes, i + 12),
                    word(bytes, i + 16));
        }
        return paper.end(bytes.length);
    }

    static int done(CreasedPaper paper, String text) {
        put(paper, text);
        return paper.hands();
    }

    static int word(byte[] bytes, int from) {
        int word = 0;
        for (int i = from; i < from + 4; i++) {
            word = word << 8 | (i < bytes.length ? bytes[i] & 255 : 0);
        }
        return word;
    }

    static String times(String part, int n) {
        return part.repeat(n);
    }
}
