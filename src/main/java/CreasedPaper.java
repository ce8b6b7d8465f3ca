/**
 * Paper that remembers: a strip that hands fold, hold, open and wear, the shapes of creased
 * sheets at rest, the ways to fold a row of panels flat, and which orders of folds made a
 * pattern that was seen. The document's promises are kept call by call; all rows that a call
 * needs are made with the object and used again, so that no call makes anything.
 */
public final class CreasedPaper {
    public static final int NONE = -1;

    private static final int NO_SUCH = -1000;
    private static final int NO_TORQUE = -2000000000;
    private static final int NO_SNAP = -3000;

    private static final int FEWEST_CELLS = 2;
    private static final int MOST_CELLS = 40;
    private static final int VALLEY = 1;
    private static final int MOUNTAIN = 2;

    private final Paper paper;
    private final Paper oldPaper;
    private final Sheets sheets;
    private final Sheets oldSheets;
    private final Seen seen;
    private final Seen oldSeen;
    private final Tape tape;
    private final Text text;
    private final Shapes shapes;
    private final Panels panels;
    private final Search search;

    public CreasedPaper(int length) {
        int cells = Math.max(FEWEST_CELLS, Math.min(MOST_CELLS, length));
        // Both are new and alike, so THE IMAGE is the new object without a copy.
        paper = new Paper(cells);
        oldPaper = new Paper(cells);
        sheets = new Sheets();
        oldSheets = new Sheets();
        seen = new Seen();
        oldSeen = new Seen();
        tape = new Tape();
        text = new Text();
        shapes = new Shapes();
        panels = new Panels();
        search = new Search();
    }

    public boolean rules(int creep, int ease, int strong, int thick) {
        boolean told = isWithin(creep, 0, 1000) && isWithin(ease, 0, 1000)
                && isWithin(strong, 1, 1000) && isWithin(thick, 1, MOST_CELLS);
        if (told) {
            paper.creep = creep;
            paper.ease = ease;
            paper.strong = strong;
            paper.thick = thick;
        }
        return told;
    }

    public int fold(int line, boolean right) {
        return paper.foldAt(line, right);
    }

    public int hold(int ticks) {
        return paper.holdFor(ticks) ? paper.clock : NONE;
    }

    public int open() {
        return paper.openUp() ? paper.clock : NONE;
    }

    public int cell(int cell, int what) {
        Strip strip = paper.strip;
        if (!isWithin(cell, 0, strip.size - 1)) {
            return NO_SUCH;
        }
        switch (what) {
            case 0: return strip.place[cell];
            case 1: return strip.layer[cell];
            case 2: return strip.up[cell] ? 1 : 0;
            default: return NO_SUCH;
        }
    }

    public int layers(int place) {
        return paper.strip.countIn(place);
    }

    public int at(int place, int layer) {
        return paper.strip.cellAt(place, layer);
    }

    public int crease(int point, int what) {
        if (!isWithin(point, 1, paper.strip.size - 1)) {
            return NONE;
        }
        Creases creases = paper.creases;
        switch (what) {
            case 0: return creases.sign[point];
            case 1: return creases.rest[point];
            case 2: return creases.wear[point];
            case 3: return creases.tick[point];
            case 4: return creases.act[point];
            case 5: return creases.torn[point] ? 1 : 0;
            case 6: return paper.strip.isFolded(point) ? 1 : 0;
            default: return NONE;
        }
    }

    public int feed(int a, int b, int c, int d, int e) {
        if (!tape.hasRoom(20)) {
            return NONE;
        }
        tape.addWord(a);
        tape.addWord(b);
        tape.addWord(c);
        tape.addWord(d);
        tape.addWord(e);
        return tape.length;
    }

    public int end(int n) {
        if (!isWithin(n, 0, tape.length)) {
            return NONE;
        }
        tape.length = n;
        return n;
    }

    public int hands() {
        boolean faultless = text.readFrom(tape);
        tape.length = 0;
        return faultless ? text.doneTo(paper) : NONE;
    }

    public int fault(int what) {
        if (!text.wasRead) {
            return NONE;
        }
        switch (what) {
            case 0: return text.faultKind;
            case 1: return text.faultPlace;
            case 2: return text.stoppedAt;
            default: return NONE;
        }
    }

    public int sheet(int stiff, int rest, int bend, int m, int q) {
        boolean told = isWithin(stiff, 1, 100) && isAngle(rest) && isWithin(bend, 0, 100)
                && isAngle(m) && isAngle(q);
        return told ? sheets.addOne(stiff, rest, bend, m, q) : NONE;
    }

    public int torque(int sheet, int angle) {
        return sheets.has(sheet) && isAngle(angle) ? sheets.torqueOf(sheet, angle) : NO_TORQUE;
    }

    public int rests(int sheet, int push, int i) {
        if (!sheets.has(sheet) || !isPush(push) || i < NONE) {
            return NO_SUCH;
        }
        shapes.take(sheets, sheet);
        return i == NONE ? shapes.countResting(push) : shapes.restingAngle(push, i);
    }

    public int stays(int sheet, int push, int angle) {
        if (!sheets.has(sheet) || !isPush(push) || !isAngle(angle)) {
            return NONE;
        }
        shapes.take(sheets, sheet);
        return shapes.restsAndStays(angle, push) ? 1 : 0;
    }

    public int snap(int sheet, int angle, int push, int to, int what) {
        boolean told = sheets.has(sheet) && isAngle(angle) && isPush(push) && isPush(to)
                && Math.abs(to - push) <= Shapes.MOST_STEPS && isWithin(what, 0, 2);
        if (!told) {
            return NO_SNAP;
        }
        shapes.take(sheets, sheet);
        if (!shapes.restsAndStays(angle, push)) {
            return NO_SNAP;
        }
        shapes.pushOn(angle, push, to);
        switch (what) {
            case 0: return shapes.angle;
            case 1: return shapes.snaps;
            default: return shapes.firstPush;
        }
    }

    public int ways(int n, int signs, int i, int layer) {
        boolean told = isWithin(n, 2, Panels.MOST) && signs >= 0 && i >= NONE;
        if (!told || !panels.take(n, signs)) {
            return NONE;
        }
        if (i == NONE) {
            return panels.countWays();
        }
        return isWithin(layer, 0, n - 1) && panels.findWay(i) ? panels.panelIn[layer] : NONE;
    }

    public int see(int point, int sign) {
        return isWithin(point, 1, Seen.LAST_POINT) && isWithin(sign, 0, MOUNTAIN)
                ? seen.tell(point, sign) : NONE;
    }

    public boolean look(int time) {
        boolean told = isWithin(time, 0, seen.time);
        if (told) {
            seen.lookTime = time;
        }
        return told;
    }

    public int orders(int n, int k, int i, int j) {
        if (!isSearch(n, k) || i < NONE) {
            return NO_SUCH;
        }
        search.take(n, k, seen);
        if (i == NONE) {
            return search.countFitting();
        }
        return isWithin(j, 0, k - 1) && search.findFitting(i) ? search.lines[j] : NO_SUCH;
    }

    public int next(int n, int k) {
        if (!isSearch(n, k)) {
            return NONE;
        }
        search.take(n, k, seen);
        return search.bestPoint();
    }

    public int image() {
        oldPaper.copyFrom(paper);
        oldSheets.copyFrom(sheets);
        oldSeen.copyFrom(seen);
        return paper.clock;
    }

    public int back() {
        paper.copyFrom(oldPaper);
        sheets.copyFrom(oldSheets);
        seen.copyFrom(oldSeen);
        return paper.clock;
    }

    public int about(int what) {
        switch (what) {
            case 0: return paper.strip.size;
            case 1: return paper.clock;
            case 2: return paper.acts;
            case 3: return paper.creases.countCreased();
            case 4: return paper.creases.countTorn();
            case 5: return seen.time;
            case 6: return seen.lookTime;
            case 7: return sheets.count;
            case 8: return tape.length;
            case 9: return paper.strip.lowestPlace();
            case 10: return paper.strip.highestPlace();
            default: return NO_SUCH;
        }
    }

    private static boolean isWithin(int value, int least, int most) {
        return value >= least && value <= most;
    }

    private static boolean isAngle(int value) {
        return isWithin(value, -Shapes.TURN, Shapes.TURN);
    }

    private static boolean isPush(int value) {
        return isWithin(value, -1000000, 1000000);
    }

    private static boolean isSearch(int n, int k) {
        return isWithin(n, 2, Search.MOST_CELLS_SEEN) && isWithin(k, 1, Search.MOST_FOLDS);
    }

    /** Where the cells of a strip lie: their places, layers and faces. */
    private static final class Strip {
        final int[] place;
        final int[] layer;
        final boolean[] up;
        int size;
        /** How many cells each place had, from the lowest place on, when last tallied. */
        private final int[] heights;
        private int tallied;

        Strip(int capacity) {
            place = new int[capacity];
            layer = new int[capacity];
            up = new boolean[capacity];
            heights = new int[capacity];
            layFlat(capacity);
        }

        void layFlat(int cells) {
            size = Math.max(0, Math.min(cells, place.length));
            for (int u = 0; u < size; u++) {
                place[u] = u;
                layer[u] = 0;
                up[u] = true;
            }
        }

        void copyFrom(Strip other) {
            size = Math.min(other.size, place.length);
            System.arraycopy(other.place, 0, place, 0, size);
            System.arraycopy(other.layer, 0, layer, 0, size);
            System.arraycopy(other.up, 0, up, 0, size);
        }

        int lowestPlace() {
            int lowest = place[0];
            for (int u = 1; u < size; u++) {
                if (place[u] < lowest) {
                    lowest = place[u];
                }
            }
            return lowest;
        }

        int highestPlace() {
            int highest = place[0];
            for (int u = 1; u < size; u++) {
                if (place[u] > highest) {
                    highest = place[u];
                }
            }
            return highest;
        }

        int countIn(int asked) {
            int count = 0;
            for (int u = 0; u < size; u++) {
                if (place[u] == asked) {
                    count++;
                }
            }
            return count;
        }

        int cellAt(int asked, int askedLayer) {
            for (int u = 0; u < size; u++) {
                if (place[u] == asked && layer[u] == askedLayer) {
                    return u;
                }
            }
            return NONE;
        }

        boolean isFolded(int point) {
            return place[point - 1] == place[point];
        }

        boolean hasBothSides(int line) {
            return line > lowestPlace() && line <= highestPlace();
        }

        boolean crosses(int point, int line) {
            int before = place[point - 1];
            int behind = place[point];
            return before == line - 1 && behind == line || before == line && behind == line - 1;
        }

        /** Must be called ahead of heightOf, tallestFolded and turnOver. */
        void tally() {
            tallied = lowestPlace();
            for (int i = 0; i < heights.length; i++) {
                heights[i] = 0;
            }
            for (int u = 0; u < size; u++) {
                int i = place[u] - tallied;
                if (i >= 0 && i < heights.length) {
                    heights[i]++;
                }
            }
        }

        int heightOf(int asked) {
            int i = asked - tallied;
            return i >= 0 && i < heights.length ? heights[i] : 0;
        }

        /** A place and its mirror come together, whichever of them moves. */
        int tallestFolded(int line) {
            int tallest = 0;
            for (int u = 0; u < size; u++) {
                int together = heightOf(place[u]) + heightOf(2 * line - 1 - place[u]);
                tallest = Math.max(tallest, together);
            }
            return tallest;
        }

        void turnOver(int line, boolean right) {
            for (int u = 0; u < size; u++) {
                if (place[u] >= line == right) {
                    int from = place[u];
                    int to = 2 * line - 1 - from;
                    place[u] = to;
                    layer[u] = heightOf(to) + heightOf(from) - 1 - layer[u];
                    up[u] = !up[u];
                }
            }
        }
    }

    /** What each point remembers; rows are read at the point's number, 0 is no point. */
    private static final class Creases {
        private static final int FRESH_REST = 300;
        private static final int FULL_REST = 1800;

        final int[] sign;
        final int[] rest;
        final int[] wear;
        final int[] tick;
        final int[] act;
        final boolean[] torn;

        Creases(int cells) {
            sign = new int[cells];
            rest = new int[cells];
            wear = new int[cells];
            tick = new int[cells];
            act = new int[cells];
            torn = new boolean[cells];
            for (int point = 0; point < cells; point++) {
                tick[point] = NONE;
                act[point] = NONE;
            }
        }

        void copyFrom(Creases other) {
            int cells = Math.min(sign.length, other.sign.length);
            System.arraycopy(other.sign, 0, sign, 0, cells);
            System.arraycopy(other.rest, 0, rest, 0, cells);
            System.arraycopy(other.wear, 0, wear, 0, cells);
            System.arraycopy(other.tick, 0, tick, 0, cells);
            System.arraycopy(other.act, 0, act, 0, cells);
            System.arraycopy(other.torn, 0, torn, 0, cells);
        }

        void press(int point, int newSign, int moreWear, int strong) {
            sign[point] = newSign;
            rest[point] = Math.max(rest[point], FRESH_REST);
            wear[point] += moreWear;
            if (wear[point] >= strong) {
                torn[point] = true;
            }
        }

        /** Under one rule a rest that a tick leaves as it is stays so: the ticks behind it are spared. */
        void creep(int point, int creep, int ticks) {
            for (int i = 0; i < ticks; i++) {
                int grown = (FULL_REST - rest[point]) * creep / 1000;
                if (grown == 0) {
                    break;
                }
                rest[point] += grown;
            }
        }

        void ease(int point, int ease, int ticks) {
            for (int i = 0; i < ticks; i++) {
                int fallen = rest[point] * ease / 1000;
                if (fallen == 0) {
                    break;
                }
                rest[point] -= fallen;
            }
        }

        int countCreased() {
            int count = 0;
            for (int point = 1; point < sign.length; point++) {
                if (sign[point] != 0) {
                    count++;
                }
            }
            return count;
        }

        int countTorn() {
            int count = 0;
            for (int point = 1; point < torn.length; point++) {
                if (torn[point]) {
                    count++;
                }
            }
            return count;
        }
    }

    /** The strip with its creases, its rules and its clock: what hands act on. */
    private static final class Paper {
        private static final int LAST_TICK = 100000;
        private static final int MOST_HELD = 1000;
        private static final int NO_CELLS = -1;
        private static final int TOO_THICK = -2;
        private static final int WOULD_TEAR = -3;
        private static final int NO_TICKS = -4;

        final Strip strip;
        final Creases creases;
        int creep = 100;
        int ease = 10;
        int strong = 100;
        int thick = MOST_CELLS;
        int clock;
        int acts;

        Paper(int cells) {
            strip = new Strip(cells);
            creases = new Creases(cells);
        }

        void copyFrom(Paper other) {
            strip.copyFrom(other.strip);
            creases.copyFrom(other.creases);
            creep = other.creep;
            ease = other.ease;
            strong = other.strong;
            thick = other.thick;
            clock = other.clock;
            acts = other.acts;
        }

        int foldAt(int line, boolean right) {
            if (!strip.hasBothSides(line)) {
                return NO_CELLS;
            }
            strip.tally();
            if (strip.tallestFolded(line) > thick) {
                return TOO_THICK;
            }
            if (isTornAlong(line)) {
                return WOULD_TEAR;
            }
            if (clock >= LAST_TICK) {
                return NO_TICKS;
            }
            int creased = creaseAlong(line);
            strip.turnOver(line, right);
            endAct(1);
            return creased;
        }

        boolean holdFor(int ticks) {
            if (ticks < 1 || ticks > MOST_HELD || clock + ticks > LAST_TICK) {
                return false;
            }
            endAct(ticks);
            return true;
        }

        boolean openUp() {
            if (clock >= LAST_TICK) {
                return false;
            }
            strip.layFlat(strip.size);
            endAct(1);
            return true;
        }

        private boolean isTornAlong(int line) {
            for (int point = 1; point < strip.size; point++) {
                if (creases.torn[point] && strip.crosses(point, line)) {
                    return true;
                }
            }
            return false;
        }

        private int creaseAlong(int line) {
            int moreWear = 1 + Math.max(strip.heightOf(line - 1), strip.heightOf(line)) / 8;
            int creased = 0;
            for (int point = 1; point < strip.size; point++) {
                if (strip.crosses(point, line)) {
                    int sign = strip.up[point] ? VALLEY : MOUNTAIN;
                    creases.press(point, sign, moreWear, strong);
                    creases.tick[point] = clock;
                    creases.act[point] = acts;
                    creased++;
                }
            }
            return creased;
        }

        private void endAct(int ticks) {
            acts++;
            clock += ticks;
            for (int point = 1; point < strip.size; point++) {
                if (creases.sign[point] == 0) {
                    continue;
                }
                if (strip.isFolded(point)) {
                    creases.creep(point, creep, ticks);
                } else {
                    creases.ease(point, ease, ticks);
                }
            }
        }
    }

    /** The tape, and the tokens on it one behind the other. */
    private static final class Tape {
        static final int MOST_BYTES = 300;
        static final int THE_END = 0;
        static final int BAD = 1;
        static final int WORD = 2;
        static final int NUMBER = 3;
        static final int SIGN = 4;
        private static final int ENOUGH = 100000;

        final int[] bytes = new int[MOST_BYTES];
        int length;
        int kind;
        int start;
        int behind;
        int value;

        boolean hasRoom(int more) {
            return length + more <= MOST_BYTES;
        }

        void addWord(int word) {
            for (int shift = 24; shift >= 0; shift -= 8) {
                if (length < MOST_BYTES) {
                    bytes[length] = word >>> shift & 255;
                    length++;
                }
            }
        }

        void rewind() {
            start = 0;
            behind = 0;
            kind = THE_END;
        }

        void readToken() {
            start = behind;
            while (start < length && isBlank(bytes[start])) {
                start++;
            }
            behind = start;
            if (start >= length) {
                kind = THE_END;
            } else if (isLetter(bytes[start])) {
                readWord();
            } else if (isDigit(bytes[start])) {
                readNumber();
            } else {
                kind = isSignByte(bytes[start]) ? SIGN : BAD;
                behind++;
            }
        }

        boolean isSign(char sign) {
            return kind == SIGN && start < length && bytes[start] == sign;
        }

        boolean isWord(String word) {
            if (kind != WORD || behind - start != word.length() || behind > length) {
                return false;
            }
            for (int i = 0; i < word.length(); i++) {
                if (bytes[start + i] != word.charAt(i)) {
                    return false;
                }
            }
            return true;
        }

        private void readWord() {
            kind = WORD;
            while (behind < length && isLetter(bytes[behind])) {
                behind++;
            }
        }

        /** A number that is already beyond all bounds stays so, whatever digits follow. */
        private void readNumber() {
            kind = NUMBER;
            value = 0;
            while (behind < length && isDigit(bytes[behind])) {
                if (value < ENOUGH) {
                    value = value * 10 + bytes[behind] - '0';
                }
                behind++;
            }
        }

        private static boolean isBlank(int b) {
            return b == 32 || b == 10;
        }

        private static boolean isLetter(int b) {
            return b >= 'a' && b <= 'z' || b >= 'A' && b <= 'Z';
        }

        private static boolean isDigit(int b) {
            return b >= '0' && b <= '9';
        }

        private static boolean isSignByte(int b) {
            return b == '(' || b == ')' || b == ';';
        }
    }

    /** A text as it was read: its DOs in the order of their telling, or its fault. */
    private static final class Text {
        private static final int MOST_DOS = 40;
        private static final int MOST_OPEN = 4;
        private static final int MOST_ACTS = 300;
        private static final int CANNOT_STAND = 1;
        private static final int WRONG_NUMBER = 2;
        private static final int TOO_DEEP = 3;
        private static final int TOO_MANY = 4;
        private static final int FOLD = 0;
        private static final int HOLD = 1;
        private static final int OPEN = 2;
        private static final int AGAIN = 3;

        boolean wasRead;
        int faultKind;
        int faultPlace = NONE;
        int stoppedAt = NONE;
        private final int[] verb = new int[MOST_DOS];
        private final int[] number = new int[MOST_DOS];
        private final boolean[] toRight = new boolean[MOST_DOS];
        private final int[] firstByte = new int[MOST_DOS];
        /** The DO behind the closing bracket of an again. */
        private final int[] behind = new int[MOST_DOS];
        private final int[] openAgains = new int[MOST_OPEN];
        private int dos;
        private int depth;
        private int actsDone;

        /** Whether the text is without a fault. */
        boolean readFrom(Tape tape) {
            wasRead = true;
            faultKind = 0;
            faultPlace = NONE;
            stoppedAt = NONE;
            dos = 0;
            depth = 0;
            tape.rewind();
            for (int tokens = 0; tokens <= Tape.MOST_BYTES; tokens++) {
                tape.readToken();
                if (tape.kind == Tape.THE_END && depth == 0) {
                    return true;
                }
                if (tape.isSign(')') && depth > 0) {
                    closeAgain();
                } else if (!readDo(tape)) {
                    return false;
                }
            }
            return false;
        }

        private boolean readDo(Tape tape) {
            int told = verbOf(tape);
            if (told == NONE) {
                return faultAt(tape, CANNOT_STAND);
            }
            if (dos >= MOST_DOS) {
                return faultAt(tape, TOO_MANY);
            }
            verb[dos] = told;
            firstByte[dos] = tape.start;
            dos++;
            switch (told) {
                case FOLD: return readNumber(tape, 0, 80) && readSide(tape) && readStop(tape);
                case HOLD: return readNumber(tape, 1, 1000) && readStop(tape);
                case OPEN: return readStop(tape);
                default: return readNumber(tape, 1, 50) && readOpening(tape);
            }
        }

        private static int verbOf(Tape tape) {
            if (tape.isWord("fold")) {
                return FOLD;
            }
            if (tape.isWord("hold")) {
                return HOLD;
            }
            if (tape.isWord("open")) {
                return OPEN;
            }
            return tape.isWord("again") ? AGAIN : NONE;
        }

        private boolean readNumber(Tape tape, int least, int most) {
            tape.readToken();
            if (tape.kind != Tape.NUMBER) {
                return faultAt(tape, CANNOT_STAND);
            }
            if (tape.value < least || tape.value > most) {
                return faultAt(tape, WRONG_NUMBER);
            }
            number[dos - 1] = tape.value;
            return true;
        }

        private boolean readSide(Tape tape) {
            tape.readToken();
            boolean right = tape.isWord("right");
            toRight[dos - 1] = right;
            return right || tape.isWord("left") || faultAt(tape, CANNOT_STAND);
        }

        private boolean readStop(Tape tape) {
            tape.readToken();
            return tape.isSign(';') || faultAt(tape, CANNOT_STAND);
        }

        private boolean readOpening(Tape tape) {
            tape.readToken();
            if (!tape.isSign('(')) {
                return faultAt(tape, CANNOT_STAND);
            }
            if (depth >= MOST_OPEN) {
                return faultAt(tape, TOO_DEEP);
            }
            openAgains[depth] = dos - 1;
            depth++;
            return true;
        }

        private void closeAgain() {
            depth--;
            behind[openAgains[depth]] = dos;
        }

        /** Always false, so that a reader can answer with it. */
        private boolean faultAt(Tape tape, int kind) {
            faultKind = kind;
            faultPlace = tape.start;
            return false;
        }

        int doneTo(Paper paper) {
            actsDone = 0;
            doRange(paper, 0, dos, 0);
            return actsDone;
        }

        /** Whether all acts of these DOs could be done. */
        private boolean doRange(Paper paper, int from, int to, int level) {
            int i = from;
            while (i < to) {
                if (verb[i] != AGAIN) {
                    if (!doAct(paper, i)) {
                        stoppedAt = firstByte[i];
                        return false;
                    }
                    i++;
                } else {
                    if (!doAgain(paper, i, level)) {
                        return false;
                    }
                    i = Math.max(i + 1, behind[i]);
                }
            }
            return true;
        }

        /** Brackets without an act are passed by: their rounds could be millions. */
        private boolean doAgain(Paper paper, int i, int level) {
            if (level >= MOST_OPEN || !hasAct(i + 1, behind[i])) {
                return true;
            }
            for (int round = 0; round < number[i]; round++) {
                if (!doRange(paper, i + 1, behind[i], level + 1)) {
                    return false;
                }
            }
            return true;
        }

        private boolean hasAct(int from, int to) {
            for (int i = from; i < to; i++) {
                if (verb[i] != AGAIN) {
                    return true;
                }
            }
            return false;
        }

        private boolean doAct(Paper paper, int i) {
            if (actsDone >= MOST_ACTS) {
                return false;
            }
            boolean could;
            switch (verb[i]) {
                case FOLD: could = paper.foldAt(number[i], toRight[i]) >= 0; break;
                case HOLD: could = paper.holdFor(number[i]); break;
                default: could = paper.openUp(); break;
            }
            if (could) {
                actsDone++;
            }
            return could;
        }
    }

    /** The sheets that were told. */
    private static final class Sheets {
        private static final int MOST = 6;

        int count;
        private final int[] stiffness = new int[MOST];
        private final int[] restAngle = new int[MOST];
        private final int[] bending = new int[MOST];
        private final int[] firstZero = new int[MOST];
        private final int[] secondZero = new int[MOST];

        void copyFrom(Sheets other) {
            count = other.count;
            System.arraycopy(other.stiffness, 0, stiffness, 0, MOST);
            System.arraycopy(other.restAngle, 0, restAngle, 0, MOST);
            System.arraycopy(other.bending, 0, bending, 0, MOST);
            System.arraycopy(other.firstZero, 0, firstZero, 0, MOST);
            System.arraycopy(other.secondZero, 0, secondZero, 0, MOST);
        }

        boolean has(int number) {
            return number >= 0 && number < count;
        }

        int addOne(int stiff, int rest, int bend, int m, int q) {
            if (count >= MOST) {
                return NONE;
            }
            stiffness[count] = stiff;
            restAngle[count] = rest;
            bending[count] = bend;
            firstZero[count] = m;
            secondZero[count] = q;
            count++;
            return count - 1;
        }

        /** The product can leave the ints, the torque itself can't. */
        int torqueOf(int number, int angle) {
            long away = angle - restAngle[number];
            long bent = bending[number] * away * (angle - firstZero[number])
                    * (angle - secondZero[number]);
            return (int) (stiffness[number] * away + bent / 1000);
        }
    }

    /** The shapes at rest of one sheet, taken ahead of each question. */
    private static final class Shapes {
        static final int TURN = 180;
        static final int MOST_STEPS = 2000;
        private static final int GONE = NO_SUCH;

        /** How the last push ended. */
        int angle;
        int snaps;
        int firstPush;
        private final int[] torques = new int[2 * TURN + 1];

        void take(Sheets sheets, int number) {
            for (int a = -TURN; a <= TURN; a++) {
                torques[a + TURN] = sheets.torqueOf(number, a);
            }
        }

        int countResting(int push) {
            int count = 0;
            for (int a = -TURN; a <= TURN; a++) {
                if (isResting(a, push)) {
                    count++;
                }
            }
            return count;
        }

        int restingAngle(int push, int i) {
            int count = 0;
            for (int a = -TURN; a <= TURN; a++) {
                if (isResting(a, push)) {
                    if (count == i) {
                        return a;
                    }
                    count++;
                }
            }
            return NO_SUCH;
        }

        boolean restsAndStays(int a, int push) {
            return isResting(a, push)
                    && (a >= TURN || torques[a + 1 + TURN] > push)
                    && (a <= -TURN || torques[a - 1 + TURN] < push);
        }

        void pushOn(int from, int push, int to) {
            angle = from;
            snaps = 0;
            firstPush = NO_TORQUE;
            int step = to < push ? -1 : 1;
            int steps = Math.min(MOST_STEPS, Math.abs(to - push));
            for (int i = 1; i <= steps && angle != GONE; i++) {
                followTo(push + i * step);
            }
        }

        private boolean isResting(int a, int push) {
            int here = torques[a + TURN];
            if (here == push) {
                return true;
            }
            if (a >= TURN) {
                return false;
            }
            int beyond = torques[a + 1 + TURN];
            return here < push && beyond > push || here > push && beyond < push;
        }

        private void followTo(int push) {
            if (restsAndStays(angle, push)) {
                return;
            }
            int found = nearestThatStays(push);
            if (found != GONE && Math.abs(found - angle) > 1) {
                if (snaps == 0) {
                    firstPush = push;
                }
                snaps++;
            }
            angle = found;
        }

        private int nearestThatStays(int push) {
            for (int away = 1; away <= 2 * TURN; away++) {
                int lower = angle - away;
                if (lower >= -TURN && restsAndStays(lower, push)) {
                    return lower;
                }
                int higher = angle + away;
                if (higher <= TURN && restsAndStays(higher, push)) {
                    return higher;
                }
            }
            return GONE;
        }
    }

    /** All ways to fold a row of panels flat, piled up from the lowest one. */
    private static final class Panels {
        static final int MOST = 8;

        final int[] panelIn = new int[MOST];
        private final int[] layerOf = new int[MOST];
        private final int[] signs = new int[MOST];
        private int count;
        private int wanted;
        private int found;

        /** False if there are more signs than creases. */
        boolean take(int panels, int told) {
            count = panels;
            int left = told;
            for (int crease = 0; crease < panels - 1; crease++) {
                signs[crease] = left % 3;
                left /= 3;
            }
            for (int panel = 0; panel < panels; panel++) {
                layerOf[panel] = NONE;
            }
            return left == 0;
        }

        int countWays() {
            wanted = NONE;
            found = 0;
            pileFrom(0);
            return found;
        }

        boolean findWay(int i) {
            wanted = i;
            found = 0;
            return pileFrom(0);
        }

        /** True as soon as the way that is wanted lies there. */
        private boolean pileFrom(int layer) {
            if (layer >= count) {
                found++;
                return found - 1 == wanted;
            }
            for (int panel = 0; panel < count; panel++) {
                if (layerOf[panel] == NONE && canLie(panel, layer)) {
                    panelIn[layer] = panel;
                    layerOf[panel] = layer;
                    if (pileFrom(layer + 1)) {
                        return true;
                    }
                    layerOf[panel] = NONE;
                }
            }
            return false;
        }

        private boolean canLie(int panel, int layer) {
            return (panel == 0 || fits(panel - 1, panel, panel - 1, layer))
                    && (panel == count - 1 || fits(panel, panel, panel + 1, layer));
        }

        /** A panel that isn't piled yet will be above, so the sign can be judged ahead of it. */
        private boolean fits(int crease, int panel, int other, int layer) {
            boolean otherIsBelow = layerOf[other] != NONE;
            boolean nextIsAbove = other < panel == otherIsBelow;
            boolean goesUp = signs[crease] == VALLEY == (crease % 2 == 0);
            if (signs[crease] != 0 && nextIsAbove != goesUp) {
                return false;
            }
            return !otherIsBelow || !isCrossed(crease, layerOf[other], layer);
        }

        /** A crease of the same side that began between the two layers must have ended there. */
        private boolean isCrossed(int crease, int from, int to) {
            for (int layer = from + 1; layer < to; layer++) {
                int panel = panelIn[layer];
                int partner = panel % 2 == crease % 2 ? panel + 1 : panel - 1;
                if (partner >= 0 && partner < count && layerOf[partner] == NONE) {
                    return true;
                }
            }
            return false;
        }
    }

    /** What was told of points, by the time of its telling. */
    private static final class Seen {
        static final int LAST_POINT = 11;
        private static final int LAST_TIME = 100;

        int time;
        int lookTime;
        private final int[] points = new int[LAST_TIME];
        private final int[] signs = new int[LAST_TIME];

        void copyFrom(Seen other) {
            time = other.time;
            lookTime = other.lookTime;
            System.arraycopy(other.points, 0, points, 0, LAST_TIME);
            System.arraycopy(other.signs, 0, signs, 0, LAST_TIME);
        }

        int tell(int point, int sign) {
            if (time >= LAST_TIME) {
                return NONE;
            }
            points[time] = point;
            signs[time] = sign;
            time++;
            lookTime = time;
            return time;
        }

        int signOf(int point) {
            for (int i = Math.min(lookTime, LAST_TIME) - 1; i >= 0; i--) {
                if (points[i] == point) {
                    return signs[i];
                }
            }
            return NONE;
        }
    }

    /** The orders of folds that fit what was seen, tried out in their numbering. */
    private static final class Search {
        static final int MOST_CELLS_SEEN = 12;
        static final int MOST_FOLDS = 3;

        /** The order that was found, below 0 for left. */
        final int[] lines = new int[MOST_FOLDS];
        /** The strip and its signs behind no fold, the first, the second and the third. */
        private final Strip[] strips = new Strip[MOST_FOLDS + 1];
        private final int[][] signs = new int[MOST_FOLDS + 1][MOST_CELLS_SEEN];
        private final int[] told = new int[MOST_CELLS_SEEN];
        /** How many fitting orders leave a point without a crease, as a valley, as a mountain. */
        private final int[][] tallies = new int[MOST_CELLS_SEEN][MOUNTAIN + 1];
        private int cells;
        private int folds;
        private int wanted;
        private int found;

        Search() {
            for (int i = 0; i <= MOST_FOLDS; i++) {
                strips[i] = new Strip(MOST_CELLS_SEEN);
            }
        }

        void take(int n, int k, Seen seen) {
            cells = n;
            folds = k;
            found = 0;
            strips[0].layFlat(n);
            for (int point = 1; point < n; point++) {
                told[point] = seen.signOf(point);
                signs[0][point] = 0;
                for (int sign = 0; sign <= MOUNTAIN; sign++) {
                    tallies[point][sign] = 0;
                }
            }
        }

        int countFitting() {
            wanted = NONE;
            goOn(0);
            return found;
        }

        boolean findFitting(int i) {
            wanted = i;
            return goOn(0);
        }

        int bestPoint() {
            int least = countFitting();
            int best = NONE;
            for (int point = 1; point < cells; point++) {
                int[] tally = tallies[point];
                int greatest = Math.max(tally[0], Math.max(tally[VALLEY], tally[MOUNTAIN]));
                if (greatest < least) {
                    least = greatest;
                    best = point;
                }
            }
            return best;
        }

        /** True as soon as the order that is wanted is found. */
        private boolean goOn(int done) {
            if (done >= folds) {
                return countIfFitting();
            }
            int first = Math.max(1, strips[done].lowestPlace() + 1);
            int last = Math.min(cells - 1, strips[done].highestPlace());
            for (int line = first; line <= last; line++) {
                if (goOnBy(done, line, true) || goOnBy(done, line, false)) {
                    return true;
                }
            }
            return false;
        }

        private boolean goOnBy(int done, int line, boolean right) {
            Strip strip = strips[done + 1];
            strip.copyFrom(strips[done]);
            for (int point = 1; point < cells; point++) {
                int sign = strip.up[point] ? VALLEY : MOUNTAIN;
                signs[done + 1][point] = strip.crosses(point, line) ? sign : signs[done][point];
            }
            strip.tally();
            strip.turnOver(line, right);
            lines[done] = right ? line : -line;
            return goOn(done + 1);
        }

        private boolean countIfFitting() {
            int[] made = signs[folds];
            for (int point = 1; point < cells; point++) {
                if (told[point] != NONE && told[point] != made[point]) {
                    return false;
                }
            }
            for (int point = 1; point < cells; point++) {
                tallies[point][made[point]]++;
            }
            found++;
            return found - 1 == wanted;
        }
    }
}
