import java.util.ArrayList;
import java.util.List;
import java.util.Random;

/** Random runs of at most 512 calls on one object, every answer held against the model's. */
public final class ModelTest {
    private static final int RUNS = 1500;
    private static final int[] WILD = {
        Integer.MIN_VALUE, Integer.MAX_VALUE, -100001, 100001, -32769, 32768, -1001, 1001, -101, 101,
        -2, -1, 0, 1, 2, 3, 4, 5, 6, 7, 8, 9, 15, 16, 17, 24, 25, 255, 256, 800
    };

    private final Check check;
    private final Random random;
    private final int seed;
    private final DarkRoom room = new DarkRoom();
    private final Model model = new Model();
    private final int wildOneIn;
    private final int side;
    private final int slots;
    private int calls = 0;

    private ModelTest(Check check, int seed) {
        this.check = check;
        this.seed = seed;
        random = new Random(seed);
        wildOneIn = new int[] {8, 40, 400}[seed % 3];
        side = new int[] {16, 5, 2, 9}[seed % 4];
        slots = new int[] {2, 8, 3}[seed / 3 % 3];
    }

    public static void main(String[] args) {
        Check check = new Check();
        for (int seed = 0; seed < RUNS && !check.anyWrong(); seed++) {
            new ModelTest(check, seed).run();
        }
        for (int seed = RUNS; seed < RUNS + 40 && !check.anyWrong(); seed++) {
            new ModelTest(check, seed).runSeen();
        }
        check.end();
    }

    private void run() {
        while (calls < 512) {
            call(random.nextInt(100));
        }
    }

    /** Fewer acts, then the whole state is looked at, as far as 512 calls go. */
    private void runSeen() {
        while (calls < 100) {
            call(random.nextInt(100));
        }
        for (int p = 0; p < 8; p++) {
            for (int what = 0; what < 6; what++) {
                due("about", room.about(p, what), model.about(p, what), p, what);
            }
            for (int i = 0; i < 20; i++) {
                int x = random.nextInt(16);
                int y = random.nextInt(16);
                due("at", room.at(p, x, y, 1), model.at(p, x, y, 1), p, x, y, 1);
            }
        }
        while (calls < 512) {
            int m = random.nextInt(6);
            int x = random.nextInt(16);
            int y = random.nextInt(16);
            due("isOn", room.isOn(m, x, y), model.isOn(m, x, y), m, x, y);
        }
    }

    private void due(String name, int got, int want, long... told) {
        calls++;
        if (got != want) {
            StringBuilder text = new StringBuilder("seed " + seed + ", call " + calls + ": " + name);
            for (long v : told) {
                text.append(' ').append(v);
            }
            name = text.toString();
        }
        check.due(name, got, want);
    }

    private int from(int low, int high) {
        if (random.nextInt(wildOneIn) == 0) {
            return WILD[random.nextInt(WILD.length)];
        }
        int pick = random.nextInt(12);
        return pick == 0 ? low : pick == 1 ? high : low + random.nextInt(high - low + 1);
    }

    private int pic() {
        return from(0, slots - 1);
    }

    private int edge() {
        return from(0, 3);
    }

    private int pixel() {
        return random.nextInt(3) == 0 ? from(-32768, 32767) : from(0, 255);
    }

    private long word() {
        switch (random.nextInt(4)) {
            case 0:
                return random.nextLong();
            case 1:
                return random.nextLong() & 0x0303030303030303L;
            case 2:
                return random.nextLong() & 0x0001000100010001L;
            default:
                return (random.nextInt(256) & 255L) * 0x0101010101010101L;
        }
    }

    private int someFilter() {
        return from(0, Math.max(0, model.count(0) - 1));
    }

    private void call(int which) {
        if (which < 50) {
            callPictures(which);
        } else if (which < 72) {
            callFilters(which);
        } else {
            callOthers(which);
        }
    }

    private void callPictures(int which) {
        int p = pic();
        int q = pic();
        int x = from(0, side - 1);
        int y = from(0, side - 1);
        int e = edge();
        if (which < 4) {
            int kind = random.nextInt(5) == 0 ? from(-1, 1) : from(0, 1);
            int w = from(1, side);
            int h = from(1, side);
            due("picture", room.picture(p, kind, w, h), model.picture(p, kind, w, h), p, kind, w, h);
        } else if (which < 7) {
            int v = pixel();
            due("put", room.put(p, x, y, v), model.put(p, x, y, v), p, x, y, v);
        } else if (which < 22) {
            long w = word();
            int n = random.nextInt(3) == 0 ? from(1, 8) : 2 * from(1, 4);
            due("feed", room.feed(p, x, y, w, n), model.feed(p, x, y, w, n), p, x, y, w, n);
        } else if (which < 30) {
            int far = random.nextInt(2) == 0 ? 20 : 1000;
            int ax = from(-far, far);
            int ay = from(-far, far);
            due("at", room.at(p, ax, ay, e), model.at(p, ax, ay, e), p, ax, ay, e);
        } else if (which < 36) {
            int what = from(0, 5);
            due("about", room.about(p, what), model.about(p, what), p, what);
        } else if (which < 39) {
            int kind = from(0, 1);
            int rule = from(0, 1);
            due("convert", room.convert(p, q, kind, rule), model.convert(p, q, kind, rule), p, q, kind, rule);
        } else if (which < 42) {
            int cx = from(random.nextBoolean() ? -100 : -3, random.nextBoolean() ? 100 : 3);
            int cy = from(random.nextBoolean() ? -100 : -3, random.nextBoolean() ? 100 : 3);
            int w = from(1, side);
            int h = from(1, side);
            due("cut", room.cut(p, q, cx, cy, w, h, e), model.cut(p, q, cx, cy, w, h, e), p, q, cx, cy, w, h, e);
        } else if (which < 46) {
            int how = from(0, 7);
            due("turn", room.turn(p, q, how), model.turn(p, q, how), p, q, how);
        } else {
            due("unlike", room.unlike(p, q), model.unlike(p, q), p, q);
        }
    }

    private int[] filterTold() {
        int kind = from(0, 8);
        switch (kind) {
            case 3:
                return new int[] {kind, random.nextBoolean() ? from(-9, 9) : from(-100000, 100000), from(1, 1000) % 12 + 1};
            case 4:
                return new int[] {kind, random.nextBoolean() ? from(1, 9) : from(1, 1000), from(0, 3)};
            case 5:
                return new int[] {kind, from(0, 8), from(0, 3)};
            case 6:
            case 8:
                return new int[] {kind, someFilter(), someFilter()};
            case 7:
                return new int[] {kind, from(0, 5), someFilter()};
            default:
                return new int[] {kind, random.nextBoolean() ? from(-300, 300) : from(-100000, 100000), from(0, 1)};
        }
    }

    private void callFilters(int which) {
        int p = pic();
        int f = someFilter();
        int m = from(0, 5);
        if (which < 53) {
            int[] t = filterTold();
            due("filter", room.filter(t[0], t[1], t[2]), model.filter(t[0], t[1], t[2]), t[0], t[1], t[2]);
        } else if (which < 56) {
            int i = from(0, 8);
            int v = random.nextBoolean() ? from(-4, 4) : from(-1000, 1000);
            due("weight", room.weight(f, i, v), model.weight(f, i, v), f, i, v);
        } else if (which < 61) {
            int e = edge();
            due("apply", room.apply(p, f, e), model.apply(p, f, e), p, f, e);
        } else if (which < 64) {
            int x = from(0, side - 1);
            int y = from(0, side - 1);
            boolean on = random.nextInt(4) > 0;
            due("mask", room.mask(m, x, y, on), model.mask(m, x, y, on), m, x, y, on ? 1 : 0);
        } else if (which < 66) {
            int low = pixel();
            int high = pixel();
            due("maskOf", room.maskOf(m, p, low, high), model.maskOf(m, p, low, high), m, p, low, high);
        } else if (which < 70) {
            int n = from(0, 5);
            int how = from(0, 6);
            due("maskBy", room.maskBy(m, n, how), model.maskBy(m, n, how), m, n, how);
        } else {
            int x = from(0, 15);
            int y = from(0, 15);
            due("isOn", room.isOn(m, x, y), model.isOn(m, x, y), m, x, y);
        }
    }

    private void callOthers(int which) {
        int p = pic();
        int x = from(0, side - 1);
        int y = from(0, side - 1);
        if (which < 75) {
            int t = random.nextInt(3) == 0 ? from(0, 70000) : from(0, 60);
            int v = pixel();
            due("fill", room.fill(p, x, y, t, v), model.fill(p, x, y, t, v), p, x, y, t, v);
        } else if (which < 77) {
            int n = from(2, 16);
            due("dither", room.dither(p, n), model.dither(p, n), p, n);
        } else if (which < 78) {
            due("even", room.even(p), model.even(p), p);
        } else if (which < 80) {
            due("energy", room.energy(p, x, y), model.energy(p, x, y), p, x, y);
        } else if (which < 83) {
            int row = from(-1, side - 1);
            due("seam", room.seam(p, row), model.seam(p, row), p, row);
        } else if (which < 86) {
            int how = from(0, 1);
            due("seamGoes", room.seamGoes(p, how), model.seamGoes(p, how), p, how);
        } else if (which < 89) {
            int i = random.nextInt(3) == 0 ? from(-1, 800) : from(-1, 20);
            due("runs", room.runs(p, i), model.runs(p, i), p, i);
        } else if (which < 91) {
            copyByTape(p);
        } else if (which < 94) {
            due("undo", room.undo(), model.undo());
        } else if (which < 97) {
            due("redo", room.redo(), model.redo());
        } else {
            int what = from(0, 4);
            due("count", room.count(what), model.count(what), what);
        }
    }

    /** Bytes of a picture's runs, or made-up ones, at times spoilt, go to the tape and are read. */
    private void copyByTape(int p) {
        List<Integer> bytes = new ArrayList<>();
        int all = model.runs(p, -1);
        if (all > 0 && all < 60 && random.nextBoolean()) {
            for (int i = 0; i < all; i++) {
                bytes.add(model.runs(p, i));
            }
        } else {
            int kind = random.nextInt(2);
            int w = 1 + random.nextInt(4);
            int h = 1 + random.nextInt(4);
            bytes.addAll(List.of(kind, w, h));
            for (int left = w * h; left > 0;) {
                int many = 1 + random.nextInt(left);
                bytes.add(many);
                for (int i = 0; i <= kind; i++) {
                    bytes.add(random.nextInt(256));
                }
                left -= many;
            }
        }
        int spoil = random.nextInt(6);
        if (spoil == 0) {
            bytes.remove(bytes.size() - 1);
        } else if (spoil == 1) {
            bytes.add(from(0, 255));
        } else if (spoil == 2) {
            bytes.set(random.nextInt(bytes.size()), from(0, 255));
        } else if (spoil == 3) {
            bytes = bytes.subList(0, random.nextInt(bytes.size()));
        }
        for (int i = 0; i < bytes.size() && calls < 505; i++) {
            int v = bytes.get(i);
            due("byteTo", room.byteTo(v), model.byteTo(v), v);
        }
        int q = pic();
        due("read", room.read(q), model.read(q), q);
    }
}
