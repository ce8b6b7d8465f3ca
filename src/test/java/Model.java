import java.util.ArrayList;
import java.util.HashMap;
import java.util.List;
import java.util.Map;
import java.util.TreeMap;

/**
 * The document once more, written as plainly as can be and without regard to room or speed:
 * piles are lists, texts are unrolled, orders are tried out one and all (PanelsTest does so for ways).
 */
final class Model {
    /** All that an image holds. */
    private static final class State {
        int length;
        TreeMap<Integer, List<Integer>> piles = new TreeMap<>();
        boolean[] up;
        int[][] crease;
        int creep = 100;
        int ease = 10;
        int strong = 100;
        int thick = 40;
        int clock;
        int acts;
        List<int[]> sheets = new ArrayList<>();
        List<int[]> told = new ArrayList<>();
        int look;

        State(int length) {
            this.length = length;
            flatten();
            crease = new int[length][];
        }

        void flatten() {
            piles = new TreeMap<>();
            up = new boolean[length];
            for (int u = 0; u < length; u++) {
                piles.put(u, new ArrayList<>(List.of(u)));
                up[u] = true;
            }
        }

        State copy() {
            State s = new State(length);
            s.piles = new TreeMap<>();
            for (Map.Entry<Integer, List<Integer>> e : piles.entrySet()) {
                s.piles.put(e.getKey(), new ArrayList<>(e.getValue()));
            }
            s.up = up.clone();
            for (int i = 0; i < length; i++) {
                s.crease[i] = crease[i] == null ? null : crease[i].clone();
            }
            s.creep = creep;
            s.ease = ease;
            s.strong = strong;
            s.thick = thick;
            s.clock = clock;
            s.acts = acts;
            s.sheets = new ArrayList<>(sheets);
            s.told = new ArrayList<>(told);
            s.look = look;
            return s;
        }

        int placeOf(int cell) {
            for (Map.Entry<Integer, List<Integer>> e : piles.entrySet()) {
                if (e.getValue().contains(cell)) {
                    return e.getKey();
                }
            }
            throw new IllegalStateException();
        }

        List<Integer> crossed(int line) {
            List<Integer> points = new ArrayList<>();
            List<Integer> one = piles.getOrDefault(line - 1, List.of());
            List<Integer> two = piles.getOrDefault(line, List.of());
            for (int p = 1; p < length; p++) {
                if (one.contains(p - 1) && two.contains(p) || two.contains(p - 1) && one.contains(p)) {
                    points.add(p);
                }
            }
            return points;
        }

        TreeMap<Integer, List<Integer>> folded(int line, boolean right) {
            TreeMap<Integer, List<Integer>> after = new TreeMap<>();
            TreeMap<Integer, List<Integer>> moving = new TreeMap<>();
            for (Map.Entry<Integer, List<Integer>> e : piles.entrySet()) {
                boolean moves = right ? e.getKey() >= line : e.getKey() < line;
                (moves ? moving : after).put(e.getKey(), new ArrayList<>(e.getValue()));
            }
            for (Map.Entry<Integer, List<Integer>> e : moving.entrySet()) {
                List<Integer> pile = after.computeIfAbsent(2 * line - 1 - e.getKey(), k -> new ArrayList<>());
                for (int i = e.getValue().size() - 1; i >= 0; i--) {
                    pile.add(e.getValue().get(i));
                }
            }
            return after;
        }

        void turn(int line, boolean right) {
            TreeMap<Integer, List<Integer>> after = folded(line, right);
            for (Map.Entry<Integer, List<Integer>> e : piles.entrySet()) {
                if (right == e.getKey() >= line) {
                    for (int u : e.getValue()) {
                        up[u] = !up[u];
                    }
                }
            }
            piles = after;
        }

        boolean hasSides(int line) {
            return piles.lowerKey(line) != null && piles.ceilingKey(line) != null;
        }

        int fold(int line, boolean right) {
            if (!hasSides(line)) {
                return -1;
            }
            for (List<Integer> pile : folded(line, right).values()) {
                if (pile.size() > thick) {
                    return -2;
                }
            }
            List<Integer> points = crossed(line);
            for (int p : points) {
                if (crease[p] != null && crease[p][5] == 1) {
                    return -3;
                }
            }
            if (clock == 100000) {
                return -4;
            }
            int most = Math.max(piles.getOrDefault(line, List.of()).size(),
                    piles.getOrDefault(line - 1, List.of()).size());
            for (int p : points) {
                if (crease[p] == null) {
                    crease[p] = new int[6];
                }
                int[] c = crease[p];
                c[0] = up[p] ? 1 : 2;
                c[1] = c[1] < 300 ? 300 : c[1];
                c[2] = c[2] + 1 + most / 8;
                c[3] = clock;
                c[4] = acts;
                if (c[2] >= strong) {
                    c[5] = 1;
                }
            }
            turn(line, right);
            acts++;
            tick();
            return points.size();
        }

        void tick() {
            clock++;
            for (int p = 1; p < length; p++) {
                if (crease[p] != null) {
                    int rest = crease[p][1];
                    if (placeOf(p - 1) == placeOf(p)) {
                        crease[p][1] = rest + (1800 - rest) * creep / 1000;
                    } else {
                        crease[p][1] = rest - rest * ease / 1000;
                    }
                }
            }
        }

        int hold(int ticks) {
            if (ticks < 1 || ticks > 1000 || clock + ticks > 100000) {
                return -1;
            }
            acts++;
            for (int i = 0; i < ticks; i++) {
                tick();
            }
            return clock;
        }

        int open() {
            if (clock == 100000) {
                return -1;
            }
            flatten();
            acts++;
            tick();
            return clock;
        }
    }

    private static final class Fault extends RuntimeException {
        private static final long serialVersionUID = 1L;
        final int kind;
        final int place;

        Fault(int kind, int place) {
            this.kind = kind;
            this.place = place;
        }
    }

    private State now;
    private State image;
    private String tape = "";
    private int[] fault;

    Model(int length) {
        now = new State(length < 2 ? 2 : length > 40 ? 40 : length);
        image = now.copy();
    }

    boolean rules(int creep, int ease, int strong, int thick) {
        if (creep < 0 || creep > 1000 || ease < 0 || ease > 1000 || strong < 1 || strong > 1000 || thick < 1
                || thick > 40) {
            return false;
        }
        now.creep = creep;
        now.ease = ease;
        now.strong = strong;
        now.thick = thick;
        return true;
    }

    int fold(int line, boolean right) {
        return now.fold(line, right);
    }

    int hold(int ticks) {
        return now.hold(ticks);
    }

    int open() {
        return now.open();
    }

    int cell(int cell, int what) {
        if (cell < 0 || cell >= now.length || what < 0 || what > 2) {
            return -1000;
        }
        int place = now.placeOf(cell);
        return what == 0 ? place : what == 1 ? now.piles.get(place).indexOf(cell) : now.up[cell] ? 1 : 0;
    }

    int layers(int place) {
        return now.piles.getOrDefault(place, List.of()).size();
    }

    int at(int place, int layer) {
        List<Integer> pile = now.piles.getOrDefault(place, List.of());
        return layer >= 0 && layer < pile.size() ? pile.get(layer) : -1;
    }

    int crease(int point, int what) {
        if (point < 1 || point >= now.length || what < 0 || what > 6) {
            return -1;
        }
        if (what == 6) {
            return now.placeOf(point) == now.placeOf(point - 1) ? 1 : 0;
        }
        if (now.crease[point] == null) {
            return what == 3 || what == 4 ? -1 : 0;
        }
        return now.crease[point][what];
    }

    int feed(int a, int b, int c, int d, int e) {
        if (tape.length() > 280) {
            return -1;
        }
        StringBuilder more = new StringBuilder(tape);
        for (int word : new int[] {a, b, c, d, e}) {
            for (byte x : java.nio.ByteBuffer.allocate(4).putInt(word).array()) {
                more.append((char) (x & 255));
            }
        }
        tape = more.toString();
        return tape.length();
    }

    int end(int n) {
        if (n < 0 || n > tape.length()) {
            return -1;
        }
        tape = tape.substring(0, n);
        return n;
    }

    int hands() {
        String text = tape;
        tape = "";
        fault = new int[] {0, -1, -1};
        List<String> acts = new ArrayList<>();
        try {
            new Reader(text).read(acts);
        } catch (Fault f) {
            fault = new int[] {f.kind, f.place, -1};
            return -1;
        }
        int done = 0;
        for (String act : acts) {
            String[] parts = act.split(" ");
            int answer = -1;
            if (done < 300) {
                int number = Integer.parseInt(parts[1]);
                answer = switch (parts[0]) {
                    case "right" -> now.fold(number, true);
                    case "left" -> now.fold(number, false);
                    case "hold" -> now.hold(number);
                    default -> now.open();
                };
            }
            if (answer < 0) {
                fault[2] = Integer.parseInt(parts[2]);
                return done;
            }
            done++;
        }
        return done;
    }

    /** A reader by descent, whose acts are unrolled, up to 301 of them. */
    private static final class Reader {
        final List<String> tokens = new ArrayList<>();
        final List<Integer> places = new ArrayList<>();
        int next;
        int dos;

        Reader(String text) {
            int i = 0;
            while (i < text.length()) {
                char c = text.charAt(i);
                int j = i + 1;
                if (c == ' ' || c == '\n') {
                    i++;
                    continue;
                }
                String kind = String.valueOf(c).matches("[a-zA-Z]") ? "[a-zA-Z]"
                        : String.valueOf(c).matches("[0-9]") ? "[0-9]" : null;
                while (kind != null && j < text.length() && text.substring(j, j + 1).matches(kind)) {
                    j++;
                }
                tokens.add(text.substring(i, j));
                places.add(i);
                i = j;
            }
            tokens.add("");
            places.add(text.length());
        }

        void read(List<String> acts) {
            readDos(acts, 0);
            if (!tokens.get(next).isEmpty()) {
                throw new Fault(1, places.get(next));
            }
        }

        private void readDos(List<String> acts, int open) {
            while (List.of("fold", "hold", "open", "again").contains(tokens.get(next))) {
                int place = places.get(next);
                if (++dos == 41) {
                    throw new Fault(4, place);
                }
                String word = tokens.get(next++);
                if (word.equals("fold")) {
                    int line = number(0, 80);
                    String side = take("right", "left");
                    take(";");
                    acts.add(side + " " + line + " " + place);
                } else if (word.equals("hold")) {
                    int ticks = number(1, 1000);
                    take(";");
                    acts.add("hold " + ticks + " " + place);
                } else if (word.equals("open")) {
                    take(";");
                    acts.add("open 0 " + place);
                } else {
                    int times = number(1, 50);
                    int bracket = places.get(next);
                    take("(");
                    if (open == 4) {
                        throw new Fault(3, bracket);
                    }
                    List<String> body = new ArrayList<>();
                    readDos(body, open + 1);
                    take(")");
                    for (int t = 0; t < times && acts.size() < 301; t++) {
                        acts.addAll(body);
                    }
                }
            }
        }

        private int number(int least, int most) {
            String token = tokens.get(next);
            if (!token.matches("[0-9]+")) {
                throw new Fault(1, places.get(next));
            }
            java.math.BigInteger value = new java.math.BigInteger(token);
            if (value.compareTo(java.math.BigInteger.valueOf(least)) < 0
                    || value.compareTo(java.math.BigInteger.valueOf(most)) > 0) {
                throw new Fault(2, places.get(next));
            }
            next++;
            return value.intValue();
        }

        private String take(String... those) {
            String token = tokens.get(next);
            if (!List.of(those).contains(token)) {
                throw new Fault(1, places.get(next));
            }
            next++;
            return token;
        }
    }

    int fault(int what) {
        return fault == null || what < 0 || what > 2 ? -1 : fault[what];
    }

    int sheet(int stiff, int rest, int bend, int m, int q) {
        if (stiff < 1 || stiff > 100 || Math.abs((long) rest) > 180 || bend < 0 || bend > 100
                || Math.abs((long) m) > 180 || Math.abs((long) q) > 180 || now.sheets.size() == 6) {
            return -1;
        }
        now.sheets.add(new int[] {stiff, rest, bend, m, q});
        return now.sheets.size() - 1;
    }

    private boolean hasSheet(int sheet) {
        return sheet >= 0 && sheet < now.sheets.size();
    }

    private static boolean isAngle(int a) {
        return a >= -180 && a <= 180;
    }

    private static boolean isPush(int p) {
        return p >= -1000000 && p <= 1000000;
    }

    int torque(int sheet, int angle) {
        if (!hasSheet(sheet) || !isAngle(angle)) {
            return -2000000000;
        }
        int[] s = now.sheets.get(sheet);
        long a = angle;
        return (int) (s[0] * (a - s[1]) + s[2] * (a - s[1]) * (a - s[3]) * (a - s[4]) / 1000);
    }

    private boolean rest(int sheet, int push, int a) {
        int t = torque(sheet, a);
        if (t == push) {
            return true;
        }
        return a != 180 && Long.signum((long) t - push) * Long.signum((long) torque(sheet, a + 1) - push) == -1;
    }

    private boolean good(int sheet, int push, int a) {
        return rest(sheet, push, a) && (a == 180 || torque(sheet, a + 1) > push)
                && (a == -180 || torque(sheet, a - 1) < push);
    }

    int rests(int sheet, int push, int i) {
        if (!hasSheet(sheet) || !isPush(push) || i < -1) {
            return -1000;
        }
        List<Integer> all = new ArrayList<>();
        for (int a = -180; a <= 180; a++) {
            if (rest(sheet, push, a)) {
                all.add(a);
            }
        }
        return i == -1 ? all.size() : i < all.size() ? all.get(i) : -1000;
    }

    int stays(int sheet, int push, int angle) {
        if (!hasSheet(sheet) || !isPush(push) || !isAngle(angle)) {
            return -1;
        }
        return good(sheet, push, angle) ? 1 : 0;
    }

    int snap(int sheet, int angle, int push, int to, int what) {
        if (!hasSheet(sheet) || !isPush(push) || !isPush(to) || !isAngle(angle) || what < 0 || what > 2
                || Math.abs(push - to) > 2000 || !good(sheet, push, angle)) {
            return -3000;
        }
        int snaps = 0;
        int first = -2000000000;
        int at = angle;
        int p = push;
        while (p != to) {
            p += to > push ? 1 : -1;
            if (good(sheet, p, at)) {
                continue;
            }
            if (at - 1 >= -180 && good(sheet, p, at - 1)) {
                at = at - 1;
            } else if (at + 1 <= 180 && good(sheet, p, at + 1)) {
                at = at + 1;
            } else {
                int best = -1000;
                for (int a = -180; a <= 180; a++) {
                    if (good(sheet, p, a) && (best == -1000 || Math.abs(a - at) < Math.abs(best - at))) {
                        best = a;
                    }
                }
                if (best == -1000) {
                    at = best;
                    break;
                }
                at = best;
                if (snaps++ == 0) {
                    first = p;
                }
            }
        }
        return what == 0 ? at : what == 1 ? snaps : first;
    }

    int see(int point, int sign) {
        if (point < 1 || point > 11 || sign < 0 || sign > 2 || now.told.size() == 100) {
            return -1;
        }
        now.told.add(new int[] {point, sign});
        now.look = now.told.size();
        return now.look;
    }

    boolean look(int time) {
        if (time < 0 || time > now.told.size()) {
            return false;
        }
        now.look = time;
        return true;
    }

    /** All orders of k folds of n cells, each with the signs that it makes. */
    private static final Map<Integer, List<int[][]>> ALL = new HashMap<>();

    private static List<int[][]> allOrders(int n, int k) {
        return ALL.computeIfAbsent(n * 10 + k, key -> {
            List<int[][]> all = new ArrayList<>();
            int choices = 2 * (n - 1);
            int rows = k == 1 ? choices : k == 2 ? choices * choices : choices * choices * choices;
            for (int row = 0; row < rows; row++) {
                int[] lines = new int[k];
                int left = row;
                for (int j = k - 1; j >= 0; j--) {
                    int choice = left % choices;
                    left /= choices;
                    lines[j] = choice % 2 == 0 ? choice / 2 + 1 : -(choice / 2 + 1);
                }
                State s = new State(n);
                s.strong = 1000;
                boolean can = true;
                for (int j = 0; j < k && can; j++) {
                    can = s.fold(Math.abs(lines[j]), lines[j] > 0) >= 0;
                }
                if (can) {
                    int[] signs = new int[n];
                    for (int p = 1; p < n; p++) {
                        signs[p] = s.crease[p] == null ? 0 : s.crease[p][0];
                    }
                    all.add(new int[][] {lines, signs});
                }
            }
            return all;
        });
    }

    private List<int[][]> fitting(int n, int k) {
        int[] seen = new int[12];
        java.util.Arrays.fill(seen, -1);
        for (int t = 0; t < now.look; t++) {
            seen[now.told.get(t)[0]] = now.told.get(t)[1];
        }
        List<int[][]> fit = new ArrayList<>();
        for (int[][] order : allOrders(n, k)) {
            boolean fits = true;
            for (int p = 1; p < n; p++) {
                fits &= seen[p] == -1 || seen[p] == order[1][p];
            }
            if (fits) {
                fit.add(order);
            }
        }
        return fit;
    }

    int orders(int n, int k, int i, int j) {
        if (n < 2 || n > 12 || k < 1 || k > 3 || i < -1) {
            return -1000;
        }
        List<int[][]> fit = fitting(n, k);
        if (i == -1) {
            return fit.size();
        }
        return i < fit.size() && j >= 0 && j < k ? fit.get(i)[0][j] : -1000;
    }

    int next(int n, int k) {
        if (n < 2 || n > 12 || k < 1 || k > 3) {
            return -1;
        }
        List<int[][]> fit = fitting(n, k);
        int best = -1;
        int least = Integer.MAX_VALUE;
        for (int p = 1; p < n; p++) {
            int[] counts = new int[3];
            for (int[][] order : fit) {
                counts[order[1][p]]++;
            }
            int greatest = Math.max(counts[0], Math.max(counts[1], counts[2]));
            if (greatest < least) {
                least = greatest;
                best = p;
            }
        }
        return fit.isEmpty() || least == fit.size() ? -1 : best;
    }

    int image() {
        image = now.copy();
        return now.clock;
    }

    int back() {
        now = image.copy();
        return now.clock;
    }

    int about(int what) {
        int creased = 0;
        int torn = 0;
        for (int[] c : now.crease) {
            creased += c == null ? 0 : 1;
            torn += c == null ? 0 : c[5];
        }
        int[] all = {now.length, now.clock, now.acts, creased, torn, now.told.size(), now.look,
            now.sheets.size(), tape.length(), now.piles.firstKey(), now.piles.lastKey()};
        return what < 0 || what >= all.length ? -1000 : all[what];
    }
}
