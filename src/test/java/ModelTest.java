import java.nio.charset.StandardCharsets;
import java.util.Random;

/** Runs of 512 calls, told by fixed seeds, that the class and the model must answer alike. */
public final class ModelTest {
    private static final Due DUE = new Due("ModelTest");
    private static final int CALLS = 512;

    private final Random random;
    private final CreasedPaper paper;
    private final Model model;
    private final String run;
    private int calls;

    private ModelTest(long seed) {
        random = new Random(seed);
        int length = random.nextInt(10) == 0 ? strange() : 2 + random.nextInt(39);
        paper = new CreasedPaper(length);
        model = new Model(length);
        run = "run " + seed + " of " + length;
    }

    public static void main(String[] args) {
        int runs = args.length > 0 ? Integer.parseInt(args[0]) : 150;
        for (int seed = 1; seed <= runs && !DUE.hasWrong(); seed++) {
            new ModelTest(seed).go();
        }
        DUE.end();
    }

    private void go() {
        int bias = random.nextInt(6);
        while (calls < CALLS && !DUE.hasWrong()) {
            int kind = random.nextInt(3) == 0 ? random.nextInt(6) : bias;
            switch (kind) {
                case 0: case 1: actOnStrip(); break;
                case 2: putText(); break;
                case 3: askSheets(); break;
                case 4: askSeen(); break;
                default: askAll(); break;
            }
        }
    }

    private void check(String call, int got, int want) {
        calls++;
        DUE.is(run + " call " + calls + " " + call, got, want);
    }

    private int strange() {
        int[] those = {0, -1, 1, 2, 41, 100, -1000, Integer.MAX_VALUE, Integer.MIN_VALUE, 1 << 30};
        return those[random.nextInt(those.length)];
    }

    private int number(int least, int most) {
        return random.nextInt(40) == 0 ? strange() : least + random.nextInt(most - least + 1);
    }

    private void actOnStrip() {
        switch (random.nextInt(12)) {
            case 0: rules(); break;
            case 1: case 2: open(); break;
            case 3: hold(); break;
            case 4: image(); break;
            case 5: cells(); break;
            case 6: creases(); break;
            default: fold(); break;
        }
    }

    private void rules() {
        int creep = number(0, 1000);
        int ease = number(0, random.nextBoolean() ? 20 : 1000);
        int strong = number(1, random.nextBoolean() ? 12 : 1000);
        int thick = number(random.nextBoolean() ? 1 : 20, 40);
        check("rules", paper.rules(creep, ease, strong, thick) ? 1 : 0,
                model.rules(creep, ease, strong, thick) ? 1 : 0);
    }

    private void open() {
        check("open", paper.open(), model.open());
    }

    private void hold() {
        int ticks = number(1, random.nextBoolean() ? 5 : 1000);
        check("hold " + ticks, paper.hold(ticks), model.hold(ticks));
    }

    private void fold() {
        int line = number(model.about(9), model.about(10) + 1);
        boolean right = random.nextBoolean();
        check("fold " + line + " " + right, paper.fold(line, right), model.fold(line, right));
    }

    private void image() {
        if (random.nextInt(3) != 0) {
            check("image", paper.image(), model.image());
        } else {
            check("back", paper.back(), model.back());
        }
    }

    private void cells() {
        int cell = number(-1, model.about(0));
        int what = number(-1, 3);
        check("cell " + cell + " " + what, paper.cell(cell, what), model.cell(cell, what));
        int place = number(model.about(9) - 1, model.about(10) + 1);
        int layer = number(-1, model.layers(place));
        check("layers " + place, paper.layers(place), model.layers(place));
        check("at " + place + " " + layer, paper.at(place, layer), model.at(place, layer));
    }

    private void creases() {
        for (int i = 0; i < 4; i++) {
            int point = number(1, model.about(0));
            int what = number(0, 6);
            check("crease " + point + " " + what, paper.crease(point, what), model.crease(point, what));
        }
    }

    private void putText() {
        if (random.nextInt(4) != 0) {
            check("end 0", paper.end(0), model.end(0));
        }
        byte[] bytes = text().getBytes(StandardCharsets.ISO_8859_1);
        for (int i = 0; i < bytes.length; i += 20) {
            int[] w = new int[5];
            for (int j = 0; j < 5; j++) {
                w[j] = Texts.word(bytes, i + 4 * j);
            }
            check("feed", paper.feed(w[0], w[1], w[2], w[3], w[4]), model.feed(w[0], w[1], w[2], w[3], w[4]));
        }
        int over = (20 - bytes.length % 20) % 20;
        int n = number(model.about(8) - over, model.about(8) - over);
        check("end " + n, paper.end(n), model.end(n));
        check("about 8", paper.about(8), model.about(8));
        check("hands", paper.hands(), model.hands());
        for (int what = -1; what <= 3; what++) {
            check("fault " + what, paper.fault(what), model.fault(what));
        }
        for (int what = 0; what <= 10; what++) {
            check("about " + what, paper.about(what), model.about(what));
        }
        creases();
    }

    private String text() {
        StringBuilder b = new StringBuilder();
        int dos = random.nextInt(random.nextInt(6) == 0 ? 60 : 10);
        for (int i = 0; i < dos; i++) {
            addDo(b, 0);
        }
        if (b.length() > 300) {
            b.setLength(random.nextInt(300));
        }
        if (random.nextInt(3) == 0 && b.length() > 0) {
            spoil(b);
        }
        return b.toString();
    }

    private void addDo(StringBuilder b, int depth) {
        String gap = random.nextInt(20) == 0 ? " " : "";
        switch (random.nextInt(depth < 5 ? 8 : 6)) {
            case 0: case 1: case 2:
                b.append("fold").append(gap).append(random.nextInt(50) == 0 ? random.nextInt(90)
                        : 1 + random.nextInt(Math.max(1, model.about(10)))).append(gap)
                        .append(random.nextBoolean() ? "right" : "left").append(gap).append(';');
                break;
            case 3:
                b.append("hold").append(gap).append(random.nextInt(10) == 0 ? random.nextInt(1010)
                        : 1 + random.nextInt(4)).append(";").append(gap);
                break;
            case 4: case 5:
                b.append(gap).append("open;");
                break;
            default:
                b.append("again").append(gap).append(random.nextInt(20) == 0 ? random.nextInt(55)
                        : 1 + random.nextInt(8)).append('(').append(gap);
                int inner = random.nextInt(4);
                for (int i = 0; i < inner; i++) {
                    addDo(b, depth + 1);
                }
                b.append(')').append(random.nextInt(15) == 0 ? "\n" : "");
                break;
        }
    }

    private void spoil(StringBuilder b) {
        int at = random.nextInt(b.length());
        String signs = "();  \n019azZ\t\u00ff\0.xo";
        char sign = signs.charAt(random.nextInt(signs.length()));
        switch (random.nextInt(4)) {
            case 0: b.setCharAt(at, sign); break;
            case 1: b.deleteCharAt(at); break;
            case 2: b.insert(at, sign); break;
            default: b.setLength(at); break;
        }
        if (b.length() > 300) {
            b.setLength(300);
        }
    }

    private void askSheets() {
        if (random.nextInt(4) == 0 || model.about(7) == 0) {
            int k = number(1, random.nextBoolean() ? 5 : 100);
            int r = number(-180, 180);
            int j = number(0, 100);
            int m = number(-180, 180);
            int q = number(-180, 180);
            check("sheet", paper.sheet(k, r, j, m, q), model.sheet(k, r, j, m, q));
        }
        int sheet = number(0, Math.max(0, model.about(7) - 1));
        int angle = number(-180, 180);
        check("torque " + sheet + " " + angle, paper.torque(sheet, angle), model.torque(sheet, angle));
        int push = random.nextInt(30) == 0 ? strange() : model.torque(sheet, angle) + random.nextInt(7) - 3;
        int count = model.rests(sheet, push, -1);
        check("rests " + sheet + " " + push, paper.rests(sheet, push, -1), count);
        int i = number(-2, Math.max(0, count));
        int rest = model.rests(sheet, push, i);
        check("rests " + sheet + " " + push + " " + i, paper.rests(sheet, push, i), rest);
        int from = i == -1 || rest == -1000 ? angle : rest;
        check("stays " + sheet + " " + push + " " + from, paper.stays(sheet, push, from),
                model.stays(sheet, push, from));
        int to = random.nextInt(30) == 0 ? strange() : push + random.nextInt(4021) - 2010;
        for (int what = 0; what < 3; what++) {
            check("snap " + sheet + " " + from + " " + push + " " + to + " " + what,
                    paper.snap(sheet, from, push, to, what), model.snap(sheet, from, push, to, what));
        }
    }

    private void askSeen() {
        if (random.nextInt(3) == 0) {
            int point = number(1, random.nextBoolean() ? 4 : 11);
            int sign = number(0, 2);
            check("see " + point + " " + sign, paper.see(point, sign), model.see(point, sign));
        }
        if (random.nextInt(3) == 0) {
            int time = number(0, model.about(5) + (random.nextInt(10) == 0 ? 1 : 0));
            check("look " + time, paper.look(time) ? 1 : 0, model.look(time) ? 1 : 0);
        }
        int n = number(2, random.nextInt(10) == 0 ? 12 : 7);
        int k = number(1, 3);
        int count = model.orders(n, k, -1, 0);
        check("orders " + n + " " + k, paper.orders(n, k, -1, 0), count);
        int i = number(-2, Math.max(0, count));
        int j = number(0, 3);
        check("orders " + n + " " + k + " " + i + " " + j, paper.orders(n, k, i, j), model.orders(n, k, i, j));
        check("next " + n + " " + k, paper.next(n, k), model.next(n, k));
    }

    private void askAll() {
        int what = number(-1, 11);
        check("about " + what, paper.about(what), model.about(what));
        actOnStrip();
    }
}
