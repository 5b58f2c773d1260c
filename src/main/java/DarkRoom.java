import java.util.Arrays;

/**
 * A darkroom for small pictures: eight pictures, six masks, up to twenty-four filters, a tape of bytes, and the latest
 * sixteen acts, which can be taken back and done again.
 *
 * <p>Every act lays its result in a tray; when nothing refuses it, the tray and the thing that it replaces change
 * places, so that no call makes an object but filter().
 */
public final class DarkRoom {
    public static final int BAD = -100001, NO = -100002, FULL = -100003, NONE = -100004;

    private static final int PICTURES = 8;
    private static final int MASKS = 6;
    private static final int FILTERS = 24;
    private static final int SIDE = 16;
    private static final int AREA = 256;
    private static final int TAPE = 800;
    private static final int ACTS = 16;

    private static final int MISSING = -1;
    private static final int BYTES = 0;
    private static final int SHORTS = 1;

    private static final int MIRRORED = 1;
    private static final int WRAPPED = 2;
    private static final int NOUGHT = 3;

    private static final int ADD = 0;
    private static final int TURN = 1;
    private static final int STEP = 2;
    private static final int TIMES = 3;
    private static final int SQUARE = 4;
    private static final int RANK = 5;
    private static final int THEN = 6;
    private static final int WHERE = 7;
    private static final int BOTH = 8;
    private static final int AROUND = 9;
    private static final int HIGHEST = 4;

    private static final int ALL_ON = 0xFFFF;
    private static final int HEAD = 3;
    private static final int LONGEST_RUN = 255;

    private final Picture[] pictures = new Picture[PICTURES];
    private final Mask[] masks = new Mask[MASKS];
    private final Filter[] filters = new Filter[FILTERS];
    private int filterCount = 0;
    private Picture tray = new Picture();
    private Mask maskTray = new Mask();
    private final History history = new History();
    private final Bench bench = new Bench();
    private final Flood flood = new Flood();
    private final Tones tones = new Tones();
    private final Seam leastSeam = new Seam();
    private final Tape tape = new Tape();

    public DarkRoom() {
        for (int p = 0; p < PICTURES; p++) {
            pictures[p] = new Picture();
        }
        for (int m = 0; m < MASKS; m++) {
            masks[m] = new Mask();
        }
    }

    // ---- pictures

    public int picture(int p, int kind, int w, int h) {
        if (!isPicture(p) || !within(kind, MISSING, SHORTS)) {
            return BAD;
        }
        if (kind == MISSING) {
            tray.vanish();
        } else if (isSide(w) && isSide(h)) {
            tray.shape(kind, w, h);
            tray.blank();
        } else {
            return BAD;
        }
        keepPicture(p);
        return 0;
    }

    public int put(int p, int x, int y, int v) {
        if (!isPicture(p) || !pictures[p].has(x, y)) {
            return BAD;
        }
        Picture old = pictures[p];
        if (!old.holds(v)) {
            return NO;
        }
        int place = old.place(x, y);
        int was = old.pixel(place);
        tray.copyFrom(old);
        tray.set(place, v);
        keepPicture(p);
        return was;
    }

    public int feed(int p, int x, int y, long w, int n) {
        // A start that is no PIXEL is 'no such thing' (BAD, as in put); NO is left for what runs over the end.
        if (!isPicture(p) || !pictures[p].has(x, y) || !within(n, 1, 8)) {
            return BAD;
        }
        Picture old = pictures[p];
        boolean shorts = old.kind == SHORTS;
        if (shorts && n % 2 != 0) {
            return BAD;
        }
        int many = shorts ? n / 2 : n;
        int start = old.place(x, y);
        if (start + many > old.area()) {
            return NO;
        }
        tray.copyFrom(old);
        for (int i = 0; i < many; i++) {
            tray.set(start + i, shorts ? (short) (w >> 16 * i) : (int) (w >> 8 * i) & 255);
        }
        keepPicture(p);
        return many;
    }

    public int at(int p, int x, int y, int edge) {
        if (!isPicture(p) || pictures[p].isMissing() || !isEdge(edge)) {
            return BAD;
        }
        if (!within(x, -1000, 1000) || !within(y, -1000, 1000)) {
            return BAD;
        }
        return pictures[p].seen(x, y, edge);
    }

    public int about(int p, int what) {
        if (!isPicture(p) || !within(what, 0, 5)) {
            return BAD;
        }
        Picture of = pictures[p];
        if (of.isMissing()) {
            return NONE;
        }
        switch (what) {
            case 0:
                return of.kind;
            case 1:
                return of.width;
            case 2:
                return of.height;
            case 3:
                return of.leastPixel();
            case 4:
                return of.greatestPixel();
            default:
                return of.sum();
        }
    }

    public int convert(int p, int q, int kind, int rule) {
        if (!isPicture(p) || !isPicture(q) || !within(kind, BYTES, SHORTS) || !within(rule, 0, 1)) {
            return BAD;
        }
        Picture from = pictures[p];
        if (from.isMissing()) {
            return NO;
        }
        tray.shape(kind, from.width, from.height);
        for (int i = 0; i < from.area(); i++) {
            int v = from.pixel(i);
            tray.set(i, rule == 0 ? tray.kept(v) : kind == BYTES ? v & 255 : v);
        }
        int others = tray.unlikePixels(from);
        keepPicture(q);
        return others;
    }

    public int cut(int p, int q, int x, int y, int w, int h, int edge) {
        if (!isPicture(p) || !isPicture(q) || !isEdge(edge) || !isSide(w) || !isSide(h)) {
            return BAD;
        }
        if (!within(x, -100, 100) || !within(y, -100, 100)) {
            return BAD;
        }
        Picture from = pictures[p];
        if (from.isMissing()) {
            return NO;
        }
        tray.shape(from.kind, w, h);
        for (int i = 0; i < w * h; i++) {
            tray.set(i, from.seen(x + i % w, y + i / w, edge));
        }
        keepPicture(q);
        return 0;
    }

    public int turn(int p, int q, int how) {
        if (!isPicture(p) || !isPicture(q) || !within(how, 0, 7)) {
            return BAD;
        }
        Picture from = pictures[p];
        if (from.isMissing()) {
            return NO;
        }
        tray.turnedFrom(from, how % 4, how >= 4);
        keepPicture(q);
        return 0;
    }

    public int unlike(int p, int q) {
        if (!isPicture(p) || !isPicture(q)) {
            return BAD;
        }
        Picture one = pictures[p];
        Picture other = pictures[q];
        if (one.isMissing() || other.isMissing() || one.width != other.width || one.height != other.height) {
            return NO;
        }
        return one.unlikePixels(other);
    }

    // ---- filters, masks

    public int filter(int kind, int a, int b) {
        if (!isFilterTold(kind, a, b)) {
            return BAD;
        }
        Filter first = kind == WHERE ? partOf(b) : kind == THEN || kind == BOTH ? partOf(a) : null;
        Filter second = kind == THEN || kind == BOTH ? partOf(b) : null;
        int high = 1 + Math.max(first == null ? 0 : first.high, second == null ? 0 : second.high);
        if (high > HIGHEST) {
            return BAD;
        }
        if (filterCount >= FILTERS) {
            return FULL;
        }
        filters[filterCount] = new Filter(kind, a, b, high, first, second);
        filterCount++;
        return filterCount - 1;
    }

    public int weight(int f, int i, int v) {
        Filter square = partOf(f);
        if (square == null || !within(i, 0, AROUND - 1) || !within(v, -1000, 1000)) {
            return BAD;
        }
        if (square.kind != SQUARE) {
            return NO;
        }
        int was = square.weightAt(i);
        square.weigh(i, v);
        return was;
    }

    public int apply(int p, int f, int edge) {
        Filter by = partOf(f);
        if (!isPicture(p) || by == null || !isEdge(edge)) {
            return BAD;
        }
        Picture old = pictures[p];
        if (old.isMissing()) {
            return NO;
        }
        Bench.develop(bench, by, old, tray, masks, edge, 0);
        int changed = tray.unlikePixels(old);
        keepPicture(p);
        return changed;
    }

    public int mask(int m, int x, int y, boolean on) {
        if (!isMask(m) || !isOfMask(x, y)) {
            return BAD;
        }
        Mask old = masks[m];
        int was = old.lit(x, y) ? 1 : 0;
        maskTray.copyFrom(old);
        maskTray.light(x, y, on);
        keepMask(m);
        return was;
    }

    public int maskOf(int m, int p, int low, int high) {
        if (!isMask(m) || !isPicture(p)) {
            return BAD;
        }
        Picture of = pictures[p];
        if (of.isMissing()) {
            return NO;
        }
        maskTray.darken();
        for (int y = 0; y < of.height; y++) {
            for (int x = 0; x < of.width; x++) {
                maskTray.light(x, y, within(of.pixel(of.place(x, y)), low, high));
            }
        }
        keepMask(m);
        return masks[m].howMany();
    }

    public int maskBy(int m, int n, int how) {
        if (!isMask(m) || !isMask(n) || !within(how, 0, 6)) {
            return BAD;
        }
        maskTray.joinedFrom(masks[m], masks[n], how);
        keepMask(m);
        return masks[m].howMany();
    }

    public int isOn(int m, int x, int y) {
        if (!isMask(m) || !isOfMask(x, y)) {
            return BAD;
        }
        return masks[m].lit(x, y) ? 1 : 0;
    }

    // ---- fills, tones, seams, runs

    public int fill(int p, int x, int y, int t, int v) {
        if (!isPicture(p) || t < 0) {
            return BAD;
        }
        Picture old = pictures[p];
        if (!old.has(x, y) || !old.holds(v)) {
            return NO;
        }
        int reached = flood.pour(old, x, y, t);
        tray.copyFrom(old);
        for (int i = 0; i < reached; i++) {
            tray.set(flood.placeAt(i), v);
        }
        keepPicture(p);
        return reached;
    }

    public int dither(int p, int n) {
        if (!isPicture(p) || !within(n, 2, 16)) {
            return BAD;
        }
        Picture old = pictures[p];
        if (old.kind != BYTES) {
            return NO;
        }
        tones.spread(old, tray, n);
        int changed = tray.unlikePixels(old);
        keepPicture(p);
        return changed;
    }

    public int even(int p) {
        if (!isPicture(p)) {
            return BAD;
        }
        Picture old = pictures[p];
        if (old.kind != BYTES) {
            return NO;
        }
        tones.flatten(old, tray);
        int changed = tray.unlikePixels(old);
        keepPicture(p);
        return changed;
    }

    public int energy(int p, int x, int y) {
        if (!isPicture(p)) {
            return BAD;
        }
        return pictures[p].has(x, y) ? pictures[p].energyAt(x, y) : NO;
    }

    public int seam(int p, int y) {
        if (!isPicture(p) || y < -1) {
            return BAD;
        }
        Picture of = pictures[p];
        if (of.isMissing() || y >= of.height) {
            return NO;
        }
        leastSeam.trace(of);
        return y == -1 ? leastSeam.total : leastSeam.column(y);
    }

    public int seamGoes(int p, int how) {
        if (!isPicture(p) || !within(how, 0, 1)) {
            return BAD;
        }
        Picture old = pictures[p];
        int width = how == 0 ? old.width - 1 : old.width + 1;
        if (old.isMissing() || !isSide(width)) {
            return NO;
        }
        leastSeam.trace(old);
        tray.shape(old.kind, width, old.height);
        for (int y = 0; y < old.height; y++) {
            int column = leastSeam.column(y);
            for (int x = 0; x < width; x++) {
                // Behind the SEAM a PIXEL comes from one further on (gone) or one back (doubled).
                int source = how == 0 ? (x < column ? x : x + 1) : (x <= column ? x : x - 1);
                tray.set(tray.place(x, y), old.pixel(old.place(source, y)));
            }
        }
        keepPicture(p);
        return width;
    }

    public int runs(int p, int i) {
        if (!isPicture(p) || i < -1) {
            return BAD;
        }
        return pictures[p].isMissing() ? NO : pictures[p].rolled(i);
    }

    public int read(int q) {
        if (!isPicture(q)) {
            return BAD;
        }
        int answer = tape.unroll(tray);
        tape.length = 0;
        // A tape that can't be read empties, but is refused: PICTURE q and the acts stay.
        if (answer >= 0) {
            keepPicture(q);
        }
        return answer;
    }

    public int byteTo(int v) {
        if (!within(v, 0, 255)) {
            return BAD;
        }
        return tape.append(v) ? tape.length : FULL;
    }

    public int undo() {
        Act act = history.stepBack();
        if (act == null) {
            return NO;
        }
        exchange(act);
        return 1;
    }

    public int redo() {
        Act act = history.stepForth();
        if (act == null) {
            return NO;
        }
        exchange(act);
        return 1;
    }

    public int count(int what) {
        switch (what) {
            case 0:
                return filterCount;
            case 1:
                return standingPictures();
            case 2:
                return history.done;
            case 3:
                return history.undone;
            case 4:
                return tape.length;
            default:
                return BAD;
        }
    }

    private static boolean within(int v, int low, int high) {
        return v >= low && v <= high;
    }

    private static boolean isPicture(int p) {
        return within(p, 0, PICTURES - 1);
    }

    private static boolean isMask(int m) {
        return within(m, 0, MASKS - 1);
    }

    private static boolean isOfMask(int x, int y) {
        return within(x, 0, SIDE - 1) && within(y, 0, SIDE - 1);
    }

    private static boolean isSide(int length) {
        return within(length, 1, SIDE);
    }

    private static boolean isEdge(int edge) {
        return within(edge, 0, NOUGHT);
    }

    /** The nearest whole to above / beneath, where a half goes up. */
    private static long nearest(long above, long beneath) {
        return beneath > 0 ? Math.floorDiv(2 * above + beneath, 2 * beneath) : 0;
    }

    private Filter partOf(int f) {
        return f >= 0 && f < filterCount && f < FILTERS ? filters[f] : null;
    }

    private boolean isFilterTold(int kind, int a, int b) {
        switch (kind) {
            case ADD:
            case STEP:
                return within(a, -100000, 100000);
            case TURN:
                return true;
            case TIMES:
                return within(a, -100000, 100000) && within(b, 1, 1000);
            case SQUARE:
                return within(a, 1, 1000);
            case RANK:
                return within(a, 0, AROUND - 1);
            case THEN:
            case BOTH:
                return partOf(a) != null && partOf(b) != null;
            case WHERE:
                return isMask(a) && partOf(b) != null;
            default:
                return false;
        }
    }

    private int standingPictures() {
        int standing = 0;
        for (int p = 0; p < PICTURES; p++) {
            standing += pictures[p].isMissing() ? 0 : 1;
        }
        return standing;
    }

    /** PICTURE p becomes what lies in the tray; what it was goes to the history, whose spare becomes the tray. */
    private void keepPicture(int p) {
        if (!isPicture(p)) {
            return;
        }
        Act act = history.next();
        act.ofMask = false;
        act.slot = p;
        Picture spare = act.picture;
        act.picture = pictures[p];
        pictures[p] = tray;
        tray = spare;
    }

    private void keepMask(int m) {
        if (!isMask(m)) {
            return;
        }
        Act act = history.next();
        act.ofMask = true;
        act.slot = m;
        Mask spare = act.mask;
        act.mask = masks[m];
        masks[m] = maskTray;
        maskTray = spare;
    }

    /** Taking back and doing again are the same: what stands and what the act keeps change places. */
    private void exchange(Act act) {
        if (act.ofMask && isMask(act.slot)) {
            Mask stood = masks[act.slot];
            masks[act.slot] = act.mask;
            act.mask = stood;
        } else if (!act.ofMask && isPicture(act.slot)) {
            Picture stood = pictures[act.slot];
            pictures[act.slot] = act.picture;
            act.picture = stood;
        }
    }

    /** A PICTURE; a MISSING one has no width and no height, so that it has no PIXEL. */
    private static final class Picture {
        int kind = MISSING;
        int width = 0;
        int height = 0;
        private final int[] pixels = new int[AREA];

        void vanish() {
            kind = MISSING;
            width = 0;
            height = 0;
        }

        void shape(int newKind, int newWidth, int newHeight) {
            kind = newKind;
            width = newWidth;
            height = newHeight;
        }

        void blank() {
            Arrays.fill(pixels, 0);
        }

        void copyFrom(Picture other) {
            shape(other.kind, other.width, other.height);
            System.arraycopy(other.pixels, 0, pixels, 0, AREA);
        }

        boolean isMissing() {
            return kind == MISSING;
        }

        boolean has(int x, int y) {
            return x >= 0 && x < width && y >= 0 && y < height;
        }

        int area() {
            return width * height;
        }

        int place(int x, int y) {
            return y * width + x;
        }

        int pixel(int place) {
            return place >= 0 && place < AREA ? pixels[place] : 0;
        }

        void set(int place, int v) {
            if (place >= 0 && place < AREA) {
                pixels[place] = v;
            }
        }

        int least() {
            return kind == SHORTS ? -32768 : 0;
        }

        int greatest() {
            return kind == SHORTS ? 32767 : 255;
        }

        boolean holds(int v) {
            return v >= least() && v <= greatest();
        }

        int kept(long v) {
            return (int) Math.max(least(), Math.min(greatest(), v));
        }

        int seen(int x, int y, int edge) {
            if (has(x, y)) {
                return pixel(place(x, y));
            }
            if (edge == NOUGHT) {
                return 0;
            }
            return pixel(place(inside(x, width, edge), inside(y, height, edge)));
        }

        private static int inside(int at, int length, int edge) {
            if (length < 1) {
                return 0;
            }
            if (edge == MIRRORED) {
                int along = Math.floorMod(at, 2 * length);
                return along < length ? along : 2 * length - 1 - along;
            }
            return edge == WRAPPED ? Math.floorMod(at, length) : Math.max(0, Math.min(at, length - 1));
        }

        int leastPixel() {
            int least = greatest();
            for (int i = 0; i < area(); i++) {
                least = Math.min(least, pixel(i));
            }
            return least;
        }

        int greatestPixel() {
            int greatest = least();
            for (int i = 0; i < area(); i++) {
                greatest = Math.max(greatest, pixel(i));
            }
            return greatest;
        }

        int sum() {
            int sum = 0;
            for (int i = 0; i < area(); i++) {
                sum += pixel(i);
            }
            return sum;
        }

        int unlikePixels(Picture other) {
            int unlike = 0;
            for (int i = 0; i < area(); i++) {
                unlike += pixel(i) == other.pixel(i) ? 0 : 1;
            }
            return unlike;
        }

        void turnedFrom(Picture from, int quarters, boolean mirrored) {
            boolean lying = quarters % 2 != 0;
            shape(from.kind, lying ? from.height : from.width, lying ? from.width : from.height);
            for (int y = 0; y < height; y++) {
                for (int x = 0; x < width; x++) {
                    int backX = width - 1 - x;
                    int backY = height - 1 - y;
                    int fromX = quarters == 0 ? x : quarters == 1 ? y : quarters == 2 ? backX : backY;
                    int fromY = quarters == 0 ? y : quarters == 1 ? backX : quarters == 2 ? backY : x;
                    set(place(x, y), from.pixel(from.place(mirrored ? from.width - 1 - fromX : fromX, fromY)));
                }
            }
        }

        int energyAt(int x, int y) {
            int across = seen(x - 1, y, 0) - seen(x + 1, y, 0);
            int along = seen(x, y - 1, 0) - seen(x, y + 1, 0);
            return Math.abs(across) + Math.abs(along);
        }

        int bytesEach() {
            return kind == SHORTS ? 2 : 1;
        }

        /** Byte i of the RUNS, NONE behind them; at -1 how many there are. */
        int rolled(int i) {
            if (i >= 0 && i < HEAD) {
                return i == 0 ? kind : i == 1 ? width : height;
            }
            int place = HEAD;
            int start = 0;
            for (int end = 1; end <= area(); end++) {
                if (isRun(start, end)) {
                    if (i >= place && i <= place + bytesEach()) {
                        return i == place ? end - start : pixelByte(pixel(start), i - place);
                    }
                    place += 1 + bytesEach();
                    start = end;
                }
            }
            return i == -1 ? place : NONE;
        }

        /** Whether the run of like PIXELS that begins at start can't go on at end. */
        private boolean isRun(int start, int end) {
            return end == area() || end - start == LONGEST_RUN || pixel(end) != pixel(start);
        }

        private int pixelByte(int v, int nth) {
            return (kind == SHORTS && nth == 1 ? v >> 8 : v) & 255;
        }
    }

    /** A MASK: bit x of row y is 1 where it is ON. */
    private static final class Mask {
        private final int[] rows = new int[SIDE];

        void darken() {
            Arrays.fill(rows, 0);
        }

        void copyFrom(Mask other) {
            System.arraycopy(other.rows, 0, rows, 0, SIDE);
        }

        boolean lit(int x, int y) {
            return isOfMask(x, y) && (rows[y] >> x & 1) != 0;
        }

        void light(int x, int y, boolean on) {
            if (isOfMask(x, y)) {
                rows[y] = on ? rows[y] | 1 << x : rows[y] & ~(1 << x);
            }
        }

        int howMany() {
            int many = 0;
            for (int y = 0; y < SIDE; y++) {
                many += Integer.bitCount(rows[y]);
            }
            return many;
        }

        void joinedFrom(Mask own, Mask other, int how) {
            for (int y = 0; y < SIDE; y++) {
                rows[y] = joinedRow(own.rows[y], other, y, how) & ALL_ON;
            }
        }

        private static int joinedRow(int own, Mask other, int y, int how) {
            int row = other.row(y, 0);
            switch (how) {
                case 0:
                    return own & row;
                case 1:
                    return own | row;
                case 2:
                    return own ^ row;
                case 3:
                    return ~row;
                case 4:
                    return row;
                case 5:
                    return row | row << 1 | row >> 1 | other.row(y - 1, 0) | other.row(y + 1, 0);
                default:
                    // What lies beyond the MASK does not keep a place from staying ON.
                    return row & (row << 1 | 1) & (row >> 1 | 1 << SIDE - 1)
                            & other.row(y - 1, ALL_ON) & other.row(y + 1, ALL_ON);
            }
        }

        private int row(int y, int beyond) {
            return y >= 0 && y < SIDE ? rows[y] : beyond;
        }
    }

    /** A FILTER; its parts are there for THEN, BOTH (two) and WHERE (the first), its weights for SQUARE. */
    private static final class Filter {
        final int kind;
        final int a;
        final int b;
        final int high;
        final Filter first;
        final Filter second;
        private final int[] weights;

        Filter(int kind, int a, int b, int high, Filter first, Filter second) {
            this.kind = kind;
            this.a = a;
            this.b = b;
            this.high = high;
            this.first = first;
            this.second = second;
            this.weights = new int[kind == SQUARE ? AROUND : 0];
        }

        int weightAt(int i) {
            return i >= 0 && i < weights.length ? weights[i] : 0;
        }

        void weigh(int i, int v) {
            if (i >= 0 && i < weights.length) {
                weights[i] = v;
            }
        }
    }

    /** Where FILTERS are put to work, with one PICTURE between two FILTERS for each level of height. */
    private static final class Bench {
        private final Picture[] between = new Picture[HIGHEST];
        private final int[] nine = new int[AROUND];

        Bench() {
            for (int i = 0; i < HIGHEST; i++) {
                between[i] = new Picture();
            }
        }

        /** Lays in to what filter makes of from. A FILTER that has others calls this for them, one level deeper. */
        private static void develop(Bench bench, Filter filter, Picture from, Picture to, Mask[] masks, int edge,
                int depth) {
            if (filter == null || depth < 0 || depth >= HIGHEST) {
                return;
            }
            Picture between = bench.between[depth];
            to.shape(from.kind, from.width, from.height);
            switch (filter.kind) {
                case SQUARE:
                case RANK:
                    bench.developAround(filter, from, to, edge);
                    break;
                case THEN:
                    develop(bench, filter.first, from, between, masks, edge, depth + 1);
                    develop(bench, filter.second, between, to, masks, edge, depth + 1);
                    break;
                case WHERE:
                    develop(bench, filter.first, from, to, masks, edge, depth + 1);
                    if (isMask(filter.a)) {
                        restoreUnlit(masks[filter.a], from, to);
                    }
                    break;
                case BOTH:
                    develop(bench, filter.first, from, to, masks, edge, depth + 1);
                    develop(bench, filter.second, from, between, masks, edge, depth + 1);
                    halve(between, to);
                    break;
                default:
                    developEach(filter, from, to);
                    break;
            }
        }

        private static void developEach(Filter filter, Picture from, Picture to) {
            for (int i = 0; i < from.area(); i++) {
                to.set(i, madeOf(filter, from, from.pixel(i)));
            }
        }

        private static int madeOf(Filter filter, Picture of, int v) {
            switch (filter.kind) {
                case ADD:
                    return of.kept((long) v + filter.a);
                case TURN:
                    return of.least() + of.greatest() - v;
                case STEP:
                    return v >= filter.a ? of.greatest() : of.least();
                case TIMES:
                    return of.kept(nearest((long) v * filter.a, filter.b));
                default:
                    return v;
            }
        }

        private void developAround(Filter filter, Picture from, Picture to, int edge) {
            for (int y = 0; y < from.height; y++) {
                for (int x = 0; x < from.width; x++) {
                    gather(from, x, y, edge);
                    int made = filter.kind == SQUARE ? from.kept(nearest(weighed(filter), filter.a)) : ranked(filter.a);
                    to.set(to.place(x, y), made);
                }
            }
        }

        private void gather(Picture from, int x, int y, int edge) {
            for (int i = 0; i < AROUND; i++) {
                nine[i] = from.seen(x + i % 3 - 1, y + i / 3 - 1, edge);
            }
        }

        private long weighed(Filter filter) {
            long sum = 0;
            for (int i = 0; i < AROUND; i++) {
                sum += (long) nine[i] * filter.weightAt(i);
            }
            return sum;
        }

        private int ranked(int k) {
            for (int i = 1; i < AROUND; i++) {
                int v = nine[i];
                int hole = i;
                while (hole > 0 && nine[hole - 1] > v) {
                    nine[hole] = nine[hole - 1];
                    hole--;
                }
                nine[hole] = v;
            }
            return k >= 0 && k < AROUND ? nine[k] : 0;
        }

        private static void restoreUnlit(Mask mask, Picture from, Picture to) {
            for (int y = 0; y < from.height; y++) {
                for (int x = 0; x < from.width; x++) {
                    if (!mask.lit(x, y)) {
                        to.set(to.place(x, y), from.pixel(from.place(x, y)));
                    }
                }
            }
        }

        private static void halve(Picture other, Picture to) {
            for (int i = 0; i < to.area(); i++) {
                to.set(i, to.pixel(i) + other.pixel(i) >> 1);
            }
        }
    }

    /** The places that a fill reaches, in the order in which it comes to them. */
    private static final class Flood {
        private final int[] places = new int[AREA];
        private final boolean[] wet = new boolean[AREA];
        private int reached = 0;

        int placeAt(int i) {
            return i >= 0 && i < AREA ? places[i] : 0;
        }

        int pour(Picture over, int x, int y, int tolerance) {
            for (int i = 0; i < AREA; i++) {
                wet[i] = false;
            }
            reached = 0;
            int first = over.pixel(over.place(x, y));
            reach(over, x, y, first, tolerance);
            for (int i = 0; i < reached && i < AREA && over.width > 0; i++) {
                int fromX = places[i] % over.width;
                int fromY = places[i] / over.width;
                reach(over, fromX - 1, fromY, first, tolerance);
                reach(over, fromX + 1, fromY, first, tolerance);
                reach(over, fromX, fromY - 1, first, tolerance);
                reach(over, fromX, fromY + 1, first, tolerance);
            }
            return reached;
        }

        private void reach(Picture over, int x, int y, int first, int tolerance) {
            if (!over.has(x, y)) {
                return;
            }
            int place = over.place(x, y);
            if (place >= AREA || reached >= AREA || wet[place] || Math.abs(over.pixel(place) - first) > tolerance) {
                return;
            }
            wet[place] = true;
            places[reached] = place;
            reached++;
        }
    }

    /** Dithers and makes even, PICTURES of BYTES. */
    private static final class Tones {
        private final int[] carried = new int[AREA];
        private final int[] atMost = new int[AREA];

        void spread(Picture from, Picture to, int levels) {
            to.shape(from.kind, from.width, from.height);
            Arrays.fill(carried, 0);
            for (int y = 0; y < from.height; y++) {
                for (int x = 0; x < from.width; x++) {
                    spreadAt(from, to, x, y, levels - 1);
                }
            }
        }

        private void spreadAt(Picture from, Picture to, int x, int y, int top) {
            int place = from.place(x, y);
            if (top < 1 || place < 0 || place >= AREA) {
                return;
            }
            int v = from.pixel(place) + carried[place];
            int level = (int) Math.max(0, Math.min(top, nearest((long) v * top, 255)));
            int made = 255 * level / top;
            to.set(place, made);
            int error = v - made;
            int right = 7 * error / 16;
            int left = 3 * error / 16;
            int beneath = 5 * error / 16;
            carry(from, x + 1, y, right);
            carry(from, x - 1, y + 1, left);
            carry(from, x, y + 1, beneath);
            carry(from, x + 1, y + 1, error - right - left - beneath);
        }

        private void carry(Picture over, int x, int y, int part) {
            int place = over.place(x, y);
            if (over.has(x, y) && place < AREA) {
                carried[place] += part;
            }
        }

        void flatten(Picture from, Picture to) {
            to.copyFrom(from);
            int all = from.area();
            countUp(from);
            int fewest = howManyAtMost(from.leastPixel());
            if (fewest >= all) {
                return;
            }
            for (int i = 0; i < all; i++) {
                long above = howManyAtMost(from.pixel(i)) - fewest;
                to.set(i, (int) nearest(255 * above, all - fewest));
            }
        }

        private void countUp(Picture of) {
            Arrays.fill(atMost, 0);
            for (int i = 0; i < of.area(); i++) {
                int v = of.pixel(i);
                if (v >= 0 && v < AREA) {
                    atMost[v]++;
                }
            }
            for (int v = 1; v < AREA; v++) {
                atMost[v] += atMost[v - 1];
            }
        }

        private int howManyAtMost(int v) {
            return v >= 0 && v < AREA ? atMost[v] : 0;
        }
    }

    /** THE SEAM of a PICTURE: the least ENERGY of a way from the first row down to each PIXEL tells it. */
    private static final class Seam {
        private final int[] costs = new int[AREA];
        private final int[] columns = new int[SIDE];
        int total = 0;

        int column(int y) {
            return y >= 0 && y < SIDE ? columns[y] : 0;
        }

        void trace(Picture of) {
            for (int y = 0; y < of.height; y++) {
                for (int x = 0; x < of.width; x++) {
                    int above = y == 0 ? 0 : cost(of, leastIn(of, y - 1, x - 1, x + 1), y - 1);
                    setCost(of.place(x, y), above + of.energyAt(x, y));
                }
            }
            int last = of.height - 1;
            int x = leastIn(of, last, 0, of.width - 1);
            total = cost(of, x, last);
            for (int y = last; y >= 0 && y < SIDE; y--) {
                x = y == last ? x : leastIn(of, y, x - 1, x + 1);
                columns[y] = x;
            }
        }

        /** Of the columns from low to high that row y has, the least one of the least cost. */
        private int leastIn(Picture of, int y, int low, int high) {
            int best = Math.max(low, 0);
            for (int x = best + 1; x <= high && x < of.width; x++) {
                if (cost(of, x, y) < cost(of, best, y)) {
                    best = x;
                }
            }
            return best;
        }

        private int cost(Picture of, int x, int y) {
            int place = of.place(x, y);
            return place >= 0 && place < AREA ? costs[place] : 0;
        }

        private void setCost(int place, int cost) {
            if (place >= 0 && place < AREA) {
                costs[place] = cost;
            }
        }
    }

    /** THE TAPE, and how a PICTURE is read from it. */
    private static final class Tape {
        private final int[] bytes = new int[TAPE];
        int length = 0;

        boolean append(int v) {
            if (length < 0 || length >= TAPE) {
                return false;
            }
            bytes[length] = v;
            length++;
            return true;
        }

        /** Lays the PICTURE in to: how many PIXELS; or -1 less the place of the first byte that can't stand there. */
        int unroll(Picture to) {
            int headEnd = soundHead();
            if (headEnd < HEAD) {
                return -1 - headEnd;
            }
            to.shape(byteAt(0), byteAt(1), byteAt(2));
            int all = to.area();
            int each = to.bytesEach();
            int filled = 0;
            for (int place = HEAD; place <= TAPE; place += 1 + each) {
                if (filled == all) {
                    return place < length ? -1 - place : all;
                }
                if (place >= length) {
                    return -1 - length;
                }
                int many = byteAt(place);
                if (many < 1 || many > all - filled) {
                    return -1 - place;
                }
                if (place + each >= length) {
                    return -1 - length;
                }
                int v = each == 1 ? byteAt(place + 1) : (short) (byteAt(place + 1) << 8 | byteAt(place + 2));
                for (int i = 0; i < many; i++) {
                    to.set(filled + i, v);
                }
                filled += many;
            }
            return -1 - length;
        }

        /** How many bytes of the head (KIND, w, h) can stand there, up to the first one that can't. */
        private int soundHead() {
            if (length < 1 || !within(byteAt(0), BYTES, SHORTS)) {
                return 0;
            }
            if (length < 2 || !isSide(byteAt(1))) {
                return 1;
            }
            return length < HEAD || !isSide(byteAt(2)) ? 2 : HEAD;
        }

        private int byteAt(int i) {
            return i >= 0 && i < TAPE ? bytes[i] : 0;
        }
    }

    /** One act: the PICTURE or MASK that it changed, and what that was ahead of it (taken back: what it was after). */
    private static final class Act {
        boolean ofMask = false;
        int slot = 0;
        Picture picture = new Picture();
        Mask mask = new Mask();
    }

    /** A ring of the latest acts: from first on those done, then those taken back. */
    private static final class History {
        private final Act[] acts = new Act[ACTS];
        private int first = 0;
        int done = 0;
        int undone = 0;

        History() {
            for (int i = 0; i < ACTS; i++) {
                acts[i] = new Act();
            }
        }

        /** The place for another act, which ends what could be done again and, when all are in use, the oldest one. */
        Act next() {
            undone = 0;
            if (done < ACTS) {
                done++;
            } else {
                first = (first + 1) % ACTS;
            }
            return nth(done - 1);
        }

        Act stepBack() {
            if (done < 1) {
                return null;
            }
            done--;
            undone++;
            return nth(done);
        }

        Act stepForth() {
            if (undone < 1) {
                return null;
            }
            undone--;
            done++;
            return nth(done - 1);
        }

        private Act nth(int i) {
            return acts[Math.floorMod(first + i, ACTS)];
        }
    }
}
