import java.util.ArrayList;
import java.util.Arrays;
import java.util.List;

/**
 * A second telling of the document, as plain as can be and without a thought for cost: every act copies the whole
 * state. It shares no code and, where there is a choice, no formula with DarkRoom.
 */
final class Model {
    static final int BAD = -100001, NO = -100002, FULL = -100003, NONE = -100004;

    /** rows[y][x]; a MISSING picture is null. */
    private record Pic(int kind, int[][] rows) {
        int w() {
            return rows[0].length;
        }

        int h() {
            return rows.length;
        }

        Pic copy() {
            int[][] copied = new int[rows.length][];
            for (int y = 0; y < rows.length; y++) {
                copied[y] = rows[y].clone();
            }
            return new Pic(kind, copied);
        }

        boolean has(int x, int y) {
            return 0 <= x && x < w() && 0 <= y && y < h();
        }

        int low() {
            return kind == 0 ? 0 : Short.MIN_VALUE;
        }

        int high() {
            return kind == 0 ? 255 : Short.MAX_VALUE;
        }

        int keep(double v) {
            return v < low() ? low() : v > high() ? high() : (int) v;
        }

        List<Integer> flat() {
            List<Integer> all = new ArrayList<>();
            for (int[] row : rows) {
                for (int v : row) {
                    all.add(v);
                }
            }
            return all;
        }

        int look(int x, int y, int edge) {
            if (edge == 3 && !has(x, y)) {
                return 0;
            }
            return rows[walk(y, h(), edge)][walk(x, w(), edge)];
        }

        private static int walk(int at, int n, int edge) {
            int i = at;
            while (i < 0 || i >= n) {
                if (edge == 0) {
                    i += i < 0 ? 1 : -1;
                } else if (edge == 1) {
                    i = i < 0 ? -1 - i : n - 1 - (i - n);
                } else {
                    i += i < 0 ? n : -n;
                }
            }
            return i;
        }
    }

    private record State(Pic[] pics, boolean[][][] masks) {
        State copy() {
            Pic[] copiedPics = new Pic[8];
            for (int p = 0; p < 8; p++) {
                copiedPics[p] = pics[p] == null ? null : pics[p].copy();
            }
            boolean[][][] copiedMasks = new boolean[6][16][];
            for (int m = 0; m < 6; m++) {
                for (int y = 0; y < 16; y++) {
                    copiedMasks[m][y] = masks[m][y].clone();
                }
            }
            return new State(copiedPics, copiedMasks);
        }
    }

    private record Fil(int kind, int a, int b, int[] weights) {
    }

    private State now = new State(new Pic[8], new boolean[6][16][16]);
    private final List<State> before = new ArrayList<>();
    private final List<State> after = new ArrayList<>();
    private final List<Fil> fils = new ArrayList<>();
    private final List<Integer> tape = new ArrayList<>();

    private static boolean in(int v, int low, int high) {
        return low <= v && v <= high;
    }

    private static boolean pic(int p) {
        return in(p, 0, 7);
    }

    private static double round(double v) {
        return Math.floor(v + 0.5);
    }

    private void act() {
        before.add(now.copy());
        if (before.size() > 16) {
            before.remove(0);
        }
        after.clear();
    }

    private static Pic blank(int kind, int w, int h) {
        return new Pic(kind, new int[h][w]);
    }

    private static int differences(Pic one, Pic other) {
        int n = 0;
        for (int i = 0; i < one.flat().size(); i++) {
            n += one.flat().get(i).equals(other.flat().get(i)) ? 0 : 1;
        }
        return n;
    }

    private int become(int p, Pic made) {
        int changed = differences(made, now.pics[p]);
        act();
        now.pics[p] = made;
        return changed;
    }

    int picture(int p, int kind, int w, int h) {
        if (!pic(p) || !in(kind, -1, 1) || kind >= 0 && (!in(w, 1, 16) || !in(h, 1, 16))) {
            return BAD;
        }
        act();
        now.pics[p] = kind < 0 ? null : blank(kind, w, h);
        return 0;
    }

    int put(int p, int x, int y, int v) {
        if (!pic(p) || now.pics[p] == null || !now.pics[p].has(x, y)) {
            return BAD;
        }
        if (!in(v, now.pics[p].low(), now.pics[p].high())) {
            return NO;
        }
        int was = now.pics[p].rows[y][x];
        act();
        now.pics[p].rows[y][x] = v;
        return was;
    }

    int feed(int p, int x, int y, long w, int n) {
        if (!pic(p) || now.pics[p] == null || !now.pics[p].has(x, y) || !in(n, 1, 8)) {
            return BAD;
        }
        Pic of = now.pics[p];
        if (of.kind == 1 && n % 2 == 1) {
            return BAD;
        }
        byte[] bytes = new byte[n];
        for (int i = 0; i < n; i++) {
            bytes[i] = (byte) (w >>> (8 * i));
        }
        int many = of.kind == 1 ? n / 2 : n;
        if ((of.h() - y) * of.w() - x < many) {
            return NO;
        }
        act();
        int atX = x;
        int atY = y;
        for (int i = 0; i < many; i++) {
            of.rows[atY][atX] = of.kind == 0 ? Byte.toUnsignedInt(bytes[i])
                    : bytes[2 * i + 1] * 256 + Byte.toUnsignedInt(bytes[2 * i]);
            atX++;
            if (atX == of.w()) {
                atX = 0;
                atY++;
            }
        }
        return many;
    }

    int at(int p, int x, int y, int edge) {
        if (!pic(p) || now.pics[p] == null || !in(x, -1000, 1000) || !in(y, -1000, 1000) || !in(edge, 0, 3)) {
            return BAD;
        }
        return now.pics[p].look(x, y, edge);
    }

    int about(int p, int what) {
        if (!pic(p) || !in(what, 0, 5)) {
            return BAD;
        }
        Pic of = now.pics[p];
        if (of == null) {
            return NONE;
        }
        List<Integer> sorted = of.flat();
        sorted.sort(null);
        int sum = sorted.stream().mapToInt(Integer::intValue).sum();
        return new int[] {of.kind, of.w(), of.h(), sorted.get(0), sorted.get(sorted.size() - 1), sum}[what];
    }

    int convert(int p, int q, int kind, int rule) {
        if (!pic(p) || !pic(q) || !in(kind, 0, 1) || !in(rule, 0, 1)) {
            return BAD;
        }
        Pic from = now.pics[p];
        if (from == null) {
            return NO;
        }
        Pic made = blank(kind, from.w(), from.h());
        for (int y = 0; y < from.h(); y++) {
            for (int x = 0; x < from.w(); x++) {
                int v = from.rows[y][x];
                made.rows[y][x] = kind == 1 ? v : rule == 0 ? made.keep(v) : Math.floorMod(v, 256);
            }
        }
        int others = differences(made, from);
        act();
        now.pics[q] = made;
        return others;
    }

    int cut(int p, int q, int x, int y, int w, int h, int edge) {
        if (!pic(p) || !pic(q) || !in(x, -100, 100) || !in(y, -100, 100) || !in(w, 1, 16) || !in(h, 1, 16)
                || !in(edge, 0, 3)) {
            return BAD;
        }
        if (now.pics[p] == null) {
            return NO;
        }
        Pic made = blank(now.pics[p].kind, w, h);
        for (int j = 0; j < h; j++) {
            for (int i = 0; i < w; i++) {
                made.rows[j][i] = now.pics[p].look(x + i, y + j, edge);
            }
        }
        act();
        now.pics[q] = made;
        return 0;
    }

    private static Pic mirror(Pic from) {
        Pic made = blank(from.kind, from.w(), from.h());
        for (int y = 0; y < from.h(); y++) {
            for (int x = 0; x < from.w(); x++) {
                made.rows[y][from.w() - 1 - x] = from.rows[y][x];
            }
        }
        return made;
    }

    /** The first row becomes the last column. */
    private static Pic quarter(Pic from) {
        Pic made = blank(from.kind, from.h(), from.w());
        for (int y = 0; y < from.h(); y++) {
            for (int x = 0; x < from.w(); x++) {
                made.rows[x][from.h() - 1 - y] = from.rows[y][x];
            }
        }
        return made;
    }

    int turn(int p, int q, int how) {
        if (!pic(p) || !pic(q) || !in(how, 0, 7)) {
            return BAD;
        }
        if (now.pics[p] == null) {
            return NO;
        }
        Pic made = how > 3 ? mirror(now.pics[p]) : now.pics[p].copy();
        for (int i = 0; i < how % 4; i++) {
            made = quarter(made);
        }
        act();
        now.pics[q] = made;
        return 0;
    }

    int unlike(int p, int q) {
        if (!pic(p) || !pic(q)) {
            return BAD;
        }
        Pic one = now.pics[p];
        Pic other = now.pics[q];
        if (one == null || other == null || one.w() != other.w() || one.h() != other.h()) {
            return NO;
        }
        return differences(one, other);
    }

    private int height(int f) {
        Fil fil = fils.get(f);
        return switch (fil.kind) {
            case 6, 8 -> 1 + Math.max(height(fil.a), height(fil.b));
            case 7 -> 1 + height(fil.b);
            default -> 1;
        };
    }

    int filter(int kind, int a, int b) {
        boolean hasA = in(a, 0, fils.size() - 1);
        boolean hasB = in(b, 0, fils.size() - 1);
        boolean told = switch (kind) {
            case 0, 2 -> in(a, -100000, 100000);
            case 1 -> true;
            case 3 -> in(a, -100000, 100000) && in(b, 1, 1000);
            case 4 -> in(a, 1, 1000);
            case 5 -> in(a, 0, 8);
            case 6, 8 -> hasA && hasB && height(a) < 4 && height(b) < 4;
            case 7 -> in(a, 0, 5) && hasB && height(b) < 4;
            default -> false;
        };
        if (!told) {
            return BAD;
        }
        if (fils.size() == 24) {
            return FULL;
        }
        fils.add(new Fil(kind, a, b, new int[9]));
        return fils.size() - 1;
    }

    int weight(int f, int i, int v) {
        if (!in(f, 0, fils.size() - 1) || !in(i, 0, 8) || !in(v, -1000, 1000)) {
            return BAD;
        }
        if (fils.get(f).kind != 4) {
            return NO;
        }
        int was = fils.get(f).weights[i];
        fils.get(f).weights[i] = v;
        return was;
    }

    private Pic made(int f, Pic of, int edge) {
        Fil fil = fils.get(f);
        if (fil.kind == 6) {
            return made(fil.b, made(fil.a, of, edge), edge);
        }
        Pic one = fil.kind == 8 ? made(fil.a, of, edge) : null;
        Pic two = fil.kind == 8 || fil.kind == 7 ? made(fil.b, of, edge) : null;
        Pic result = of.copy();
        for (int y = 0; y < of.h(); y++) {
            for (int x = 0; x < of.w(); x++) {
                int v = of.rows[y][x];
                int[] nine = new int[9];
                double sum = 0;
                for (int i = 0; i < 9; i++) {
                    nine[i] = of.look(x - 1 + i % 3, y - 1 + i / 3, edge);
                    sum += (double) nine[i] * fil.weights[i];
                }
                Arrays.sort(nine);
                result.rows[y][x] = switch (fil.kind) {
                    case 0 -> of.keep((double) v + fil.a);
                    case 1 -> of.kind == 0 ? 255 - v : -1 - v;
                    case 2 -> v < fil.a ? of.low() : of.high();
                    case 3 -> of.keep(round((double) v * fil.a / fil.b));
                    case 4 -> of.keep(round(sum / fil.a));
                    case 5 -> nine[fil.a];
                    case 7 -> now.masks[fil.a][y][x] ? two.rows[y][x] : v;
                    default -> (int) Math.floor((one.rows[y][x] + two.rows[y][x]) / 2.0);
                };
            }
        }
        return result;
    }

    int apply(int p, int f, int edge) {
        if (!pic(p) || !in(f, 0, fils.size() - 1) || !in(edge, 0, 3)) {
            return BAD;
        }
        if (now.pics[p] == null) {
            return NO;
        }
        return become(p, made(f, now.pics[p], edge));
    }

    int mask(int m, int x, int y, boolean on) {
        int was = isOn(m, x, y);
        if (was != BAD) {
            act();
            now.masks[m][y][x] = on;
        }
        return was;
    }

    private int lit(int m) {
        int n = 0;
        for (int i = 0; i < 256; i++) {
            n += now.masks[m][i / 16][i % 16] ? 1 : 0;
        }
        return n;
    }

    int maskOf(int m, int p, int low, int high) {
        if (!in(m, 0, 5) || !pic(p)) {
            return BAD;
        }
        Pic of = now.pics[p];
        if (of == null) {
            return NO;
        }
        act();
        now.masks[m] = new boolean[16][16];
        for (int y = 0; y < of.h(); y++) {
            for (int x = 0; x < of.w(); x++) {
                now.masks[m][y][x] = in(of.rows[y][x], low, high);
            }
        }
        return lit(m);
    }

    int maskBy(int m, int n, int how) {
        if (!in(m, 0, 5) || !in(n, 0, 5) || !in(how, 0, 6)) {
            return BAD;
        }
        boolean[][] result = new boolean[16][16];
        for (int y = 0; y < 16; y++) {
            for (int x = 0; x < 16; x++) {
                boolean own = now.masks[m][y][x];
                boolean other = now.masks[n][y][x];
                boolean any = other;
                boolean all = other;
                int[][] steps = {{1, 0}, {-1, 0}, {0, 1}, {0, -1}};
                for (int[] step : steps) {
                    if (in(x + step[0], 0, 15) && in(y + step[1], 0, 15)) {
                        any |= now.masks[n][y + step[1]][x + step[0]];
                        all &= now.masks[n][y + step[1]][x + step[0]];
                    }
                }
                result[y][x] = new boolean[] {own && other, own || other, own != other, !other, other, any, all}[how];
            }
        }
        act();
        now.masks[m] = result;
        return lit(m);
    }

    int isOn(int m, int x, int y) {
        if (!in(m, 0, 5) || !in(x, 0, 15) || !in(y, 0, 15)) {
            return BAD;
        }
        return now.masks[m][y][x] ? 1 : 0;
    }

    int fill(int p, int x, int y, int t, int v) {
        if (!pic(p) || t < 0) {
            return BAD;
        }
        Pic of = now.pics[p];
        if (of == null || !of.has(x, y) || !in(v, of.low(), of.high())) {
            return NO;
        }
        boolean[][] reached = new boolean[of.h()][of.w()];
        reached[y][x] = true;
        int many = 1;
        for (boolean more = true; more;) {
            more = false;
            for (int i = 0; i < of.w() * of.h(); i++) {
                int fx = i % of.w();
                int fy = i / of.w();
                boolean near = fx > 0 && reached[fy][fx - 1] || fx < of.w() - 1 && reached[fy][fx + 1]
                        || fy > 0 && reached[fy - 1][fx] || fy < of.h() - 1 && reached[fy + 1][fx];
                long off = Math.abs((long) of.rows[fy][fx] - of.rows[y][x]);
                if (near && !reached[fy][fx] && off <= t) {
                    reached[fy][fx] = true;
                    many++;
                    more = true;
                }
            }
        }
        Pic made = of.copy();
        for (int i = 0; i < of.w() * of.h(); i++) {
            if (reached[i / of.w()][i % of.w()]) {
                made.rows[i / of.w()][i % of.w()] = v;
            }
        }
        become(p, made);
        return many;
    }

    int dither(int p, int n) {
        if (!pic(p) || !in(n, 2, 16)) {
            return BAD;
        }
        Pic of = now.pics[p];
        if (of == null || of.kind != 0) {
            return NO;
        }
        int[][] v = new int[of.h() + 1][of.w() + 2];
        Pic made = of.copy();
        for (int y = 0; y < of.h(); y++) {
            for (int x = 0; x < of.w(); x++) {
                int have = of.rows[y][x] + v[y][x + 1];
                int k = (int) Math.max(0, Math.min(n - 1, round(have * (n - 1) / 255.0)));
                made.rows[y][x] = (int) (255.0 * k / (n - 1));
                int e = have - made.rows[y][x];
                int rest = e;
                v[y][x + 2] += (int) (e * 7 / 16.0);
                rest -= (int) (e * 7 / 16.0);
                v[y + 1][x] += (int) (e * 3 / 16.0);
                rest -= (int) (e * 3 / 16.0);
                v[y + 1][x + 1] += (int) (e * 5 / 16.0);
                rest -= (int) (e * 5 / 16.0);
                v[y + 1][x + 2] += rest;
            }
        }
        return become(p, made);
    }

    int even(int p) {
        if (!pic(p)) {
            return BAD;
        }
        Pic of = now.pics[p];
        if (of == null || of.kind != 0) {
            return NO;
        }
        List<Integer> all = of.flat();
        int least = about(p, 3);
        long c0 = all.stream().filter(u -> u <= least).count();
        Pic made = of.copy();
        if (c0 < all.size()) {
            for (int i = 0; i < all.size(); i++) {
                int v = all.get(i);
                long c = all.stream().filter(u -> u <= v).count();
                made.rows[i / of.w()][i % of.w()] = (int) round((c - c0) * 255.0 / (all.size() - c0));
            }
        }
        return become(p, made);
    }

    private static int strength(Pic of, int x, int y) {
        return Math.abs(of.look(x + 1, y, 0) - of.look(x - 1, y, 0))
                + Math.abs(of.look(x, y + 1, 0) - of.look(x, y - 1, 0));
    }

    int energy(int p, int x, int y) {
        if (!pic(p)) {
            return BAD;
        }
        return now.pics[p] == null || !now.pics[p].has(x, y) ? NO : strength(now.pics[p], x, y);
    }

    /** A way down to a row: its energy, then its columns from the last row up. */
    private static boolean better(int[] one, int[] other) {
        for (int i = 0; i < one.length; i++) {
            if (one[i] != other[i]) {
                return one[i] < other[i];
            }
        }
        return false;
    }

    private static int[] bestSeam(Pic of) {
        int[][] ways = null;
        for (int y = 0; y < of.h(); y++) {
            int[][] longer = new int[of.w()][];
            for (int x = 0; x < of.w(); x++) {
                for (int above = Math.max(0, x - 1); above <= Math.min(of.w() - 1, x + 1); above++) {
                    int[] way = new int[y + 2];
                    way[1] = x;
                    way[0] = strength(of, x, y);
                    if (ways != null) {
                        way[0] += ways[above][0];
                        System.arraycopy(ways[above], 1, way, 2, y);
                    }
                    if (longer[x] == null || better(way, longer[x])) {
                        longer[x] = way;
                    }
                }
            }
            ways = longer;
        }
        int[] best = ways[0];
        for (int[] way : ways) {
            best = better(way, best) ? way : best;
        }
        return best;
    }

    int seam(int p, int y) {
        if (!pic(p) || y < -1) {
            return BAD;
        }
        Pic of = now.pics[p];
        if (of == null || y >= of.h()) {
            return NO;
        }
        int[] best = bestSeam(of);
        return y == -1 ? best[0] : best[of.h() - y];
    }

    int seamGoes(int p, int how) {
        if (!pic(p) || !in(how, 0, 1)) {
            return BAD;
        }
        Pic of = now.pics[p];
        if (of == null || of.w() == (how == 0 ? 1 : 16)) {
            return NO;
        }
        int[] best = bestSeam(of);
        int[][] rows = new int[of.h()][];
        for (int y = 0; y < of.h(); y++) {
            List<Integer> row = new ArrayList<>();
            for (int x = 0; x < of.w(); x++) {
                int times = x != best[of.h() - y] ? 1 : how == 0 ? 0 : 2;
                for (int i = 0; i < times; i++) {
                    row.add(of.rows[y][x]);
                }
            }
            rows[y] = row.stream().mapToInt(Integer::intValue).toArray();
        }
        act();
        now.pics[p] = new Pic(of.kind, rows);
        return rows[0].length;
    }

    private static List<Integer> roll(Pic of) {
        List<Integer> bytes = new ArrayList<>(List.of(of.kind, of.w(), of.h()));
        List<Integer> rest = of.flat();
        while (!rest.isEmpty()) {
            int v = rest.get(0);
            int many = 0;
            while (!rest.isEmpty() && rest.get(0) == v && many < 255) {
                rest.remove(0);
                many++;
            }
            bytes.add(many);
            if (of.kind == 1) {
                bytes.add(Math.floorMod(Math.floorDiv(v, 256), 256));
            }
            bytes.add(Math.floorMod(v, 256));
        }
        return bytes;
    }

    int runs(int p, int i) {
        if (!pic(p) || i < -1) {
            return BAD;
        }
        if (now.pics[p] == null) {
            return NO;
        }
        List<Integer> bytes = roll(now.pics[p]);
        return i == -1 ? bytes.size() : i < bytes.size() ? bytes.get(i) : NONE;
    }

    int read(int q) {
        if (!pic(q)) {
            return BAD;
        }
        List<Integer> bytes = new ArrayList<>(tape);
        tape.clear();
        int[] head = new int[3];
        for (int i = 0; i < 3; i++) {
            if (i == bytes.size()) {
                return -1 - i;
            }
            head[i] = bytes.get(i);
            if (i == 0 ? head[i] > 1 : !in(head[i], 1, 16)) {
                return -1 - i;
            }
        }
        Pic made = blank(head[0], head[1], head[2]);
        int all = head[1] * head[2];
        int filled = 0;
        int next = 3;
        while (filled < all) {
            if (next == bytes.size()) {
                return -1 - next;
            }
            int many = bytes.get(next);
            if (many == 0 || filled + many > all) {
                return -1 - next;
            }
            next++;
            int v = 0;
            for (int i = 0; i <= head[0]; i++) {
                if (next == bytes.size()) {
                    return -1 - next;
                }
                v = v * 256 + bytes.get(next++);
            }
            v = head[0] == 1 && v > 32767 ? v - 65536 : v;
            for (int i = 0; i < many; i++, filled++) {
                made.rows[filled / head[1]][filled % head[1]] = v;
            }
        }
        if (next < bytes.size()) {
            return -1 - next;
        }
        act();
        now.pics[q] = made;
        return all;
    }

    int byteTo(int v) {
        if (!in(v, 0, 255)) {
            return BAD;
        }
        if (tape.size() == 800) {
            return FULL;
        }
        tape.add(v);
        return tape.size();
    }

    int undo() {
        if (before.isEmpty()) {
            return NO;
        }
        after.add(now);
        now = before.remove(before.size() - 1);
        return 1;
    }

    int redo() {
        if (after.isEmpty()) {
            return NO;
        }
        before.add(now);
        now = after.remove(after.size() - 1);
        return 1;
    }

    int count(int what) {
        if (!in(what, 0, 4)) {
            return BAD;
        }
        int standing = 0;
        for (Pic of : now.pics) {
            standing += of == null ? 0 : 1;
        }
        return new int[] {fils.size(), standing, before.size(), after.size(), tape.size()}[what];
    }
}
