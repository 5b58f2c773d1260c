/** Each promise of the document by runs of calls made by hand: ordinary numbers, edges, wrong numbers. */
public final class PromisesTest {
    private static final int BAD = DarkRoom.BAD, NO = DarkRoom.NO, FULL = DarkRoom.FULL, NONE = DarkRoom.NONE;
    private static final int MIN = Integer.MIN_VALUE, MAX = Integer.MAX_VALUE;

    private final Check check = new Check();
    private DarkRoom room = new DarkRoom();
    private String part = "";

    private PromisesTest() {
    }

    public static void main(String[] args) {
        PromisesTest test = new PromisesTest();
        test.promises1To10();
        test.promises11To17();
        test.promises18To29();
        test.check.end();
    }

    private void promises1To10() {
        begin("1 new");
        newObject();
        begin("2 picture");
        picture();
        begin("3 put");
        put();
        begin("4 feed");
        feed();
        begin("5 at");
        at();
        begin("6 about");
        about();
        begin("7 convert");
        convert();
        begin("8 cut");
        cut();
        begin("9 turn");
        turn();
        begin("10 unlike");
        unlike();
    }

    private void promises11To17() {
        begin("11 filter");
        filter();
        begin("11 filter height");
        filterHeight();
        begin("12 weight");
        weight();
        begin("13 apply each");
        applyEach();
        begin("13 apply around");
        applyAround();
        begin("13 apply put together");
        applyTogether();
        begin("13 apply wrong");
        applyWrong();
        begin("14 mask, 17 isOn");
        mask();
        begin("15 maskOf");
        maskOf();
        begin("16 maskBy");
        maskBy();
        begin("16 maskBy grown, shrunk");
        maskGrownShrunk();
    }

    private void promises18To29() {
        begin("18 fill");
        fill();
        begin("19 dither");
        dither();
        begin("20 even");
        even();
        begin("21 energy");
        energy();
        begin("22 seam");
        seam();
        begin("23 seamGoes");
        seamGoes();
        begin("24 runs");
        runs();
        begin("25 read");
        read();
        begin("25 read faults");
        readFaults();
        begin("26 byteTo");
        byteTo();
        begin("27 undo, 28 redo");
        undoRedo();
        begin("27 undo: which are acts");
        acts();
        begin("27 undo: sixteen");
        sixteen();
        begin("29 count");
        count();
        begin("nothing changes when refused");
        refused();
    }

    private void begin(String name) {
        part = name;
        room = new DarkRoom();
    }

    private void due(String call, long got, long want) {
        check.due(part + ": " + call, got, want);
    }

    /** A picture of a kind and width with these pixels, row by row. */
    private void lay(int p, int kind, int w, int... pixels) {
        room.picture(p, kind, w, pixels.length / w);
        for (int i = 0; i < pixels.length; i++) {
            room.put(p, i % w, i / w, pixels[i]);
        }
    }

    /** The picture has this kind, this width and these pixels. */
    private void duePicture(String call, int p, int kind, int w, int... pixels) {
        due(call + " kind", room.about(p, 0), kind);
        due(call + " w", room.about(p, 1), w);
        due(call + " h", room.about(p, 2), pixels.length / w);
        for (int i = 0; i < pixels.length; i++) {
            due(call + " pixel " + i, room.at(p, i % w, i / w, 0), pixels[i]);
        }
    }

    private void newObject() {
        for (int p = 0; p < 8; p++) {
            due("about " + p, room.about(p, 0), NONE);
        }
        for (int m = 0; m < 6; m++) {
            for (int i = 0; i < 256; i++) {
                due("isOn " + m + " " + i, room.isOn(m, i % 16, i / 16), 0);
            }
        }
        for (int what = 0; what < 5; what++) {
            due("count " + what, room.count(what), 0);
        }
        due("undo", room.undo(), NO);
        due("redo", room.redo(), NO);
        DarkRoom other = new DarkRoom();
        other.picture(0, 0, 1, 1);
        other.filter(1, 0, 0);
        due("another object", room.count(1) + room.count(0), 0);
    }

    private void picture() {
        due("bytes", room.picture(0, 0, 16, 16), 0);
        due("sum", room.about(0, 5), 0);
        due("shorts", room.picture(7, 1, 1, 1), 0);
        duePicture("shorts", 7, 1, 1, 0);
        room.put(0, 15, 15, 9);
        due("anew", room.picture(0, 0, 16, 16), 0);
        due("all are 0", room.about(0, 4), 0);
        room.put(0, 3, 1, 8);
        due("smaller", room.picture(0, 0, 5, 2), 0);
        due("all are 0", room.about(0, 4), 0);
        int[][] wrong = {{-1, 0, 1, 1}, {8, 0, 1, 1}, {MIN, 0, 1, 1}, {0, -2, 1, 1}, {0, 2, 1, 1}, {0, 0, 0, 1},
            {0, 0, 17, 1}, {0, 1, 1, 0}, {0, 1, 1, 17}, {0, 0, -1, -1}, {0, 0, MAX, MAX}, {8, -1, 1, 1}, {-1, -1, 1, 1}};
        int acts = room.count(2);
        for (int[] w : wrong) {
            due("wrong " + w[0] + " " + w[1] + " " + w[2] + " " + w[3], room.picture(w[0], w[1], w[2], w[3]), BAD);
        }
        due("no acts", room.count(2), acts);
        duePicture("stays", 0, 0, 5, new int[10]);
        due("missing", room.picture(0, -1, MIN, 99), 0);
        due("is missing", room.about(0, 0), NONE);
        due("missing again", room.picture(0, -1, 1, 1), 0);
        lay(3, 1, 2, -1, -2, -3, -4);
        for (int i = 0; i < 40; i++) {
            room.put(3, 0, 0, i - 50);
        }
        due("after many acts", room.picture(4, 1, 16, 16), 0);
        due("all are 0", room.about(4, 3), 0);
        due("missing after many acts", room.picture(3, -1, 1, 1), 0);
        due("missing after many acts", room.about(3, 0), NONE);
        due("missing after many acts", room.put(3, 0, 0, 0), BAD);
    }

    private void put() {
        room.picture(0, 0, 3, 2);
        due("first", room.put(0, 2, 1, 255), 0);
        due("then", room.put(0, 2, 1, 0), 255);
        due("same", room.put(0, 2, 1, 0), 0);
        duePicture("after", 0, 0, 3, 0, 0, 0, 0, 0, 0);
        room.put(0, 1, 0, 7);
        duePicture("one alone", 0, 0, 3, 0, 7, 0, 0, 0, 0);
        due("256", room.put(0, 0, 0, 256), NO);
        due("-1", room.put(0, 0, 0, -1), NO);
        due("x = w", room.put(0, 3, 0, 1), BAD);
        due("x = -1", room.put(0, -1, 0, 1), BAD);
        due("y = h", room.put(0, 0, 2, 1), BAD);
        due("y = -1", room.put(0, 0, -1, 1), BAD);
        due("BAD comes first", room.put(0, 3, 0, 256), BAD);
        due("no picture", room.put(8, 0, 0, 0), BAD);
        due("no picture", room.put(-1, 0, 0, 0), BAD);
        due("missing", room.put(1, 0, 0, 0), BAD);
        room.picture(1, 1, 1, 1);
        due("least short", room.put(1, 0, 0, -32768), 0);
        due("greatest short", room.put(1, 0, 0, 32767), -32768);
        due("too low", room.put(1, 0, 0, -32769), NO);
        due("too high", room.put(1, 0, 0, 32768), NO);
        due("stays", room.at(1, 0, 0, 0), 32767);
    }

    private void feed() {
        room.picture(0, 0, 3, 3);
        due("eight", room.feed(0, 1, 0, 0x80FF060504030201L, 8), 8);
        duePicture("eight", 0, 0, 3, 0, 1, 2, 3, 4, 5, 6, 255, 128);
        due("one", room.feed(0, 2, 2, 0x1234, 1), 1);
        duePicture("one", 0, 0, 3, 0, 1, 2, 3, 4, 5, 6, 255, 0x34);
        due("two beyond", room.feed(0, 2, 2, 0, 2), NO);
        due("eight beyond", room.feed(0, 2, 0, 0, 8), NO);
        due("n = 0", room.feed(0, 0, 0, 0, 0), BAD);
        due("n = 9", room.feed(0, 0, 0, 0, 9), BAD);
        due("n = -2", room.feed(0, 0, 0, 0, -2), BAD);
        due("BAD comes first", room.feed(0, 2, 2, 0, 9), BAD);
        due("x = w", room.feed(0, 3, 0, 0, 1), BAD);
        due("y = -1", room.feed(0, 0, -1, 0, 1), BAD);
        due("missing", room.feed(1, 0, 0, 0, 1), BAD);
        due("no picture", room.feed(8, 0, 0, 0, 1), BAD);
        duePicture("stays", 0, 0, 3, 0, 1, 2, 3, 4, 5, 6, 255, 0x34);
        room.picture(1, 1, 2, 2);
        due("four shorts", room.feed(1, 0, 0, 0x7FFF8000FFFF0102L, 8), 4);
        duePicture("four shorts", 1, 1, 2, 0x102, -1, -32768, 32767);
        due("one short", room.feed(1, 1, 1, 0x55FED4, 2), 1);
        duePicture("one short", 1, 1, 2, 0x102, -1, -32768, -300);
        due("three bytes", room.feed(1, 0, 0, 0, 3), BAD);
        due("seven bytes, beyond too", room.feed(1, 1, 1, 0, 7), BAD);
        due("six bytes fit", room.feed(1, 1, 0, 0x000300020001L, 6), 3);
        due("six bytes don't", room.feed(1, 0, 1, 0, 6), NO);
        duePicture("after", 1, 1, 2, 0x102, 1, 2, 3);
    }

    private void at() {
        lay(0, 0, 3, 10, 20, 30, 40, 50, 60);
        int[] held = {10, 10, 10, 10, 10, 20, 30, 30, 30, 30, 30, 30};
        int[] mirrored = {30, 30, 20, 10, 10, 20, 30, 30, 20, 10, 10, 20};
        int[] wrapped = {30, 10, 20, 30, 10, 20, 30, 10, 20, 30, 10, 20};
        int[] nought = {0, 0, 0, 0, 10, 20, 30, 0, 0, 0, 0, 0};
        for (int x = -4; x < 8; x++) {
            due("held " + x, room.at(0, x, 0, 0), held[x + 4]);
            due("mirrored " + x, room.at(0, x, 0, 1), mirrored[x + 4]);
            due("wrapped " + x, room.at(0, x, 0, 2), wrapped[x + 4]);
            due("nought " + x, room.at(0, x, 0, 3), nought[x + 4]);
        }
        int[] heldY = {10, 10, 10, 10, 40, 40, 40, 40};
        int[] mirroredY = {40, 40, 10, 10, 40, 40, 10, 10};
        int[] wrappedY = {40, 10, 40, 10, 40, 10, 40, 10};
        int[] noughtY = {0, 0, 0, 10, 40, 0, 0, 0};
        for (int y = -3; y < 5; y++) {
            due("held y " + y, room.at(0, 0, y, 0), heldY[y + 3]);
            due("mirrored y " + y, room.at(0, 0, y, 1), mirroredY[y + 3]);
            due("wrapped y " + y, room.at(0, 0, y, 2), wrappedY[y + 3]);
            due("nought y " + y, room.at(0, 0, y, 3), noughtY[y + 3]);
        }
        due("far held", room.at(0, -1000, 1000, 0), 40);
        due("far mirrored", room.at(0, 1000, -1000, 1), 20);
        due("far wrapped", room.at(0, 1000, -1000, 2), 20);
        due("far nought", room.at(0, 1000, 0, 3), 0);
        due("x too far", room.at(0, 1001, 0, 0), BAD);
        due("x too far", room.at(0, -1001, 0, 0), BAD);
        due("y too far", room.at(0, 0, 1001, 3), BAD);
        due("y too far", room.at(0, 0, -1001, 3), BAD);
        due("edge", room.at(0, 0, 0, 4), BAD);
        due("edge", room.at(0, 0, 0, -1), BAD);
        due("missing", room.at(1, 0, 0, 0), BAD);
        due("no picture", room.at(8, 0, 0, 0), BAD);
        due("no picture", room.at(-1, 0, 0, 0), BAD);
        due("not an act", room.count(2), 7);
    }

    private void about() {
        lay(2, 1, 2, -5, 7, -32768, 32767, 3, 3);
        int[] want = {1, 2, 3, -32768, 32767, 7};
        for (int what = 0; what < 6; what++) {
            due("shorts " + what, room.about(2, what), want[what]);
            due("missing " + what, room.about(3, what), NONE);
        }
        lay(4, 0, 3, 9, 8, 7);
        int[] bytes = {0, 3, 1, 7, 9, 24};
        for (int what = 0; what < 6; what++) {
            due("bytes " + what, room.about(4, what), bytes[what]);
        }
        due("what = 6", room.about(2, 6), BAD);
        due("what = -1", room.about(2, -1), BAD);
        due("what = 6, missing", room.about(3, 6), BAD);
        due("no picture", room.about(8, 0), BAD);
        due("no picture", room.about(-1, 0), BAD);
    }

    private void convert() {
        lay(0, 1, 2, -300, 300, 100, 256);
        due("kept", room.convert(0, 1, 0, 0), 3);
        duePicture("kept", 1, 0, 2, 0, 255, 100, 255);
        due("cut", room.convert(0, 2, 0, 1), 3);
        duePicture("cut", 2, 0, 2, 212, 44, 100, 0);
        lay(6, 1, 2, -299, 511);
        due("cut, odd", room.convert(6, 6, 0, 1), 2);
        duePicture("cut, odd", 6, 0, 2, 213, 255);
        room.picture(6, -1, 0, 0);
        due("shorts, kept", room.convert(0, 3, 1, 0), 0);
        duePicture("shorts, kept", 3, 1, 2, -300, 300, 100, 256);
        due("shorts, cut", room.convert(0, 3, 1, 1), 0);
        duePicture("shorts, cut", 3, 1, 2, -300, 300, 100, 256);
        due("bytes to shorts, cut", room.convert(2, 4, 1, 1), 0);
        duePicture("bytes to shorts, cut", 4, 1, 2, 212, 44, 100, 0);
        due("bytes to bytes", room.convert(2, 5, 0, 0), 0);
        duePicture("from", 0, 1, 2, -300, 300, 100, 256);
        due("itself", room.convert(0, 0, 0, 0), 3);
        duePicture("itself", 0, 0, 2, 0, 255, 100, 255);
        due("missing", room.convert(6, 0, 0, 0), NO);
        due("missing, rule", room.convert(6, 0, 0, 2), BAD);
        int[][] wrong = {{8, 0, 0, 0}, {-1, 0, 0, 0}, {0, 8, 0, 0}, {0, -1, 0, 0}, {0, 1, 2, 0}, {0, 1, -1, 0},
            {0, 1, 0, 2}, {0, 1, 0, -1}};
        for (int[] w : wrong) {
            due("wrong " + w[0] + w[1] + w[2] + w[3], room.convert(w[0], w[1], w[2], w[3]), BAD);
        }
    }

    private void cut() {
        lay(0, 1, 2, 1, -2, 3, 4);
        due("within", room.cut(0, 1, 1, 0, 1, 2, 0), 0);
        duePicture("within", 1, 1, 1, -2, 4);
        due("held", room.cut(0, 1, -1, -1, 4, 3, 0), 0);
        duePicture("held", 1, 1, 4, 1, 1, -2, -2, 1, 1, -2, -2, 3, 3, 4, 4);
        due("mirrored", room.cut(0, 1, 2, 1, 3, 2, 1), 0);
        duePicture("mirrored", 1, 1, 3, 4, 3, 3, 4, 3, 3);
        due("wrapped", room.cut(0, 1, -1, -1, 3, 2, 2), 0);
        duePicture("wrapped", 1, 1, 3, 4, 3, 4, -2, 1, -2);
        due("nought", room.cut(0, 1, -1, 0, 3, 3, 3), 0);
        duePicture("nought", 1, 1, 3, 0, 1, -2, 0, 3, 4, 0, 0, 0);
        due("far", room.cut(0, 1, -100, 100, 16, 16, 0), 0);
        due("far", room.about(1, 5), 16 * 16 * 3);
        due("far", room.cut(0, 1, 100, -100, 16, 16, 0), 0);
        due("far", room.about(1, 5), 16 * 16 * -2);
        due("itself", room.cut(0, 0, 0, 0, 3, 1, 2), 0);
        duePicture("itself", 0, 1, 3, 1, -2, 1);
        due("missing", room.cut(5, 0, 0, 0, 1, 1, 0), NO);
        due("missing, edge", room.cut(5, 0, 0, 0, 1, 1, 4), BAD);
        int[][] wrong = {{8, 0, 0, 0, 1, 1, 0}, {0, 8, 0, 0, 1, 1, 0}, {0, 0, 101, 0, 1, 1, 0}, {0, 0, -101, 0, 1, 1, 0},
            {0, 0, 0, 101, 1, 1, 0}, {0, 0, 0, -101, 1, 1, 0}, {0, 0, 0, 0, 0, 1, 0}, {0, 0, 0, 0, 17, 1, 0},
            {0, 0, 0, 0, 1, 0, 0}, {0, 0, 0, 0, 1, 17, 0}, {0, 0, 0, 0, 1, 1, 4}, {0, 0, 0, 0, 1, 1, -1},
            {-1, 0, 0, 0, 1, 1, 0}, {0, -1, 0, 0, 1, 1, 0}};
        for (int[] w : wrong) {
            due("wrong", room.cut(w[0], w[1], w[2], w[3], w[4], w[5], w[6]), BAD);
        }
    }

    private void turn() {
        lay(0, 1, 3, 1, 2, 3, 4, 5, 6);
        int[][] want = {{3, 1, 2, 3, 4, 5, 6}, {2, 4, 1, 5, 2, 6, 3}, {3, 6, 5, 4, 3, 2, 1}, {2, 3, 6, 2, 5, 1, 4},
            {3, 3, 2, 1, 6, 5, 4}, {2, 6, 3, 5, 2, 4, 1}, {3, 4, 5, 6, 1, 2, 3}, {2, 1, 4, 2, 5, 3, 6}};
        for (int how = 0; how < 8; how++) {
            due("turn " + how, room.turn(0, 1, how), 0);
            duePicture("turn " + how, 1, 1, want[how][0], java.util.Arrays.copyOfRange(want[how], 1, 7));
        }
        due("itself", room.turn(0, 0, 1), 0);
        duePicture("itself", 0, 1, 2, 4, 1, 5, 2, 6, 3);
        due("missing", room.turn(3, 0, 0), NO);
        due("missing, how", room.turn(3, 0, 8), BAD);
        due("how", room.turn(0, 0, 8), BAD);
        due("how", room.turn(0, 0, -1), BAD);
        due("no picture", room.turn(8, 0, 0), BAD);
        due("no picture", room.turn(0, 8, 0), BAD);
        due("no picture", room.turn(-1, 0, 0), BAD);
    }

    private void unlike() {
        lay(0, 0, 2, 1, 2, 3, 4);
        lay(1, 1, 2, 1, -2, 3, 5);
        due("kinds apart", room.unlike(0, 1), 2);
        due("itself", room.unlike(1, 1), 0);
        lay(2, 0, 4, 1, 2, 3, 4);
        due("sizes", room.unlike(0, 2), NO);
        lay(3, 0, 2, 1, 2);
        due("heights", room.unlike(0, 3), NO);
        due("missing", room.unlike(0, 4), NO);
        due("missing", room.unlike(4, 0), NO);
        due("both missing", room.unlike(4, 4), NO);
        due("no picture", room.unlike(8, 4), BAD);
        due("no picture", room.unlike(4, -1), BAD);
    }

    private void filter() {
        due("ADD", room.filter(0, -100000, MIN), 0);
        due("TURN looks at nothing", room.filter(1, MIN, MAX), 1);
        due("STEP", room.filter(2, 100000, MAX), 2);
        due("TIMES", room.filter(3, 100000, 1000), 3);
        due("SQUARE", room.filter(4, 1000, MIN), 4);
        due("RANK", room.filter(5, 8, MAX), 5);
        due("THEN", room.filter(6, 5, 0), 6);
        due("WHERE", room.filter(7, 5, 4), 7);
        due("BOTH", room.filter(8, 0, 5), 8);
        int[][] wrong = {{-1, 0, 0}, {9, 0, 0}, {0, 100001, 0}, {0, -100001, 0}, {2, 100001, 0}, {2, -100001, 0},
            {3, 100001, 1}, {3, -100001, 1}, {3, 0, 0}, {3, 0, 1001}, {3, 0, -1}, {4, 0, 0}, {4, 1001, 0}, {4, -1, 0},
            {5, -1, 0}, {5, 9, 0}, {6, 9, 0}, {6, 0, 9}, {6, -1, 0}, {6, 0, -1}, {7, 6, 0}, {7, -1, 0}, {7, 0, 9},
            {7, 0, -1}, {8, 9, 0}, {8, 0, 9}, {8, -1, 0}, {8, 0, -1}};
        for (int[] w : wrong) {
            due("wrong " + w[0] + " " + w[1] + " " + w[2], room.filter(w[0], w[1], w[2]), BAD);
        }
        due("count", room.count(0), 9);
        due("TIMES, least", room.filter(3, -100000, 1), 9);
        due("ADD, greatest", room.filter(0, 100000, 0), 10);
        due("STEP, least", room.filter(2, -100000, 0), 11);
        due("SQUARE, least", room.filter(4, 1, 0), 12);
        due("RANK, least", room.filter(5, 0, 0), 13);
        due("WHERE, least", room.filter(7, 0, 0), 14);
        for (int i = 15; i < 24; i++) {
            due("more", room.filter(1, 0, 0), i);
        }
        due("25th", room.filter(1, 0, 0), FULL);
        due("25th, put together", room.filter(6, 23, 0), FULL);
        due("BAD comes first", room.filter(5, 9, 0), BAD);
        due("count", room.count(0), 24);
        due("no acts", room.count(2), 0);
    }

    private void filterHeight() {
        room.filter(1, 0, 0);
        due("2 high", room.filter(6, 0, 0), 1);
        due("3 high", room.filter(7, 0, 1), 2);
        due("4 high, by the first", room.filter(8, 2, 0), 3);
        due("4 high, by the second", room.filter(6, 0, 2), 4);
        due("4 high, WHERE", room.filter(7, 0, 2), 5);
        due("4 high, a of WHERE is a MASK", room.filter(7, 3, 2), 6);
        due("5 high", room.filter(6, 3, 0), BAD);
        due("5 high", room.filter(6, 0, 4), BAD);
        due("5 high", room.filter(7, 0, 5), BAD);
        due("5 high", room.filter(8, 0, 3), BAD);
        due("5 high", room.filter(8, 6, 0), BAD);
        due("1 high beside it", room.filter(6, 0, 0), 7);
        for (int i = 8; i < 24; i++) {
            room.filter(1, 0, 0);
        }
        due("5 high and FULL: BAD comes first", room.filter(6, 3, 0), BAD);
    }

    private void weight() {
        room.filter(4, 1, 0);
        room.filter(5, 4, 0);
        room.filter(4, 1, 0);
        for (int i = 0; i < 9; i++) {
            due("first " + i, room.weight(0, i, i == 0 ? -1000 : 1000 - i), 0);
        }
        due("was", room.weight(0, 0, 1000), -1000);
        due("was", room.weight(0, 8, 0), 992);
        due("another SQUARE", room.weight(2, 8, 0), 0);
        due("not a SQUARE", room.weight(1, 0, 0), NO);
        due("BAD comes first", room.weight(1, 9, 0), BAD);
        due("BAD comes first", room.weight(1, 0, 1001), BAD);
        due("i", room.weight(0, 9, 0), BAD);
        due("i", room.weight(0, -1, 0), BAD);
        due("v", room.weight(0, 0, 1001), BAD);
        due("v", room.weight(0, 0, -1001), BAD);
        due("no filter", room.weight(3, 0, 0), BAD);
        due("no filter", room.weight(-1, 0, 0), BAD);
        due("stays", room.weight(0, 0, 0), 1000);
        due("no acts", room.count(2), 0);
    }

    private void applied(int kind, int a, int b, int[] bytes, int[] shorts) {
        int f = room.filter(kind, a, b);
        int[] fromBytes = {0, 5, 250, 255};
        int[] fromShorts = {-32768, -3, -1, 0, 1, 3, 32767};
        lay(0, 0, 4, fromBytes);
        lay(1, 1, 7, fromShorts);
        due("bytes " + kind + " " + a, room.apply(0, f, 0), changes(fromBytes, bytes));
        duePicture("bytes " + kind + " " + a, 0, 0, 4, bytes);
        due("shorts " + kind + " " + a, room.apply(1, f, 3), changes(fromShorts, shorts));
        duePicture("shorts " + kind + " " + a, 1, 1, 7, shorts);
    }

    private static int changes(int[] from, int[] to) {
        int n = 0;
        for (int i = 0; i < from.length; i++) {
            n += from[i] == to[i] ? 0 : 1;
        }
        return n;
    }

    private void applyEach() {
        applied(0, 10, 0, new int[] {10, 15, 255, 255}, new int[] {-32758, 7, 9, 10, 11, 13, 32767});
        applied(0, -6, 0, new int[] {0, 0, 244, 249}, new int[] {-32768, -9, -7, -6, -5, -3, 32761});
        applied(0, 100000, 0, new int[] {255, 255, 255, 255},
                new int[] {32767, 32767, 32767, 32767, 32767, 32767, 32767});
        applied(1, 0, 0, new int[] {255, 250, 5, 0}, new int[] {32767, 2, 0, -1, -2, -4, -32768});
        applied(2, 5, 0, new int[] {0, 255, 255, 255},
                new int[] {-32768, -32768, -32768, -32768, -32768, -32768, 32767});
        applied(2, -1, 0, new int[] {255, 255, 255, 255},
                new int[] {-32768, -32768, 32767, 32767, 32767, 32767, 32767});
        applied(3, 1, 2, new int[] {0, 3, 125, 128}, new int[] {-16384, -1, 0, 0, 1, 2, 16384});
        applied(3, -1, 2, new int[] {0, 0, 0, 0}, new int[] {16384, 2, 1, 0, 0, -1, -16383});
        applied(3, 1, 3, new int[] {0, 2, 83, 85}, new int[] {-10923, -1, 0, 0, 0, 1, 10922});
        applied(3, 100000, 1, new int[] {0, 255, 255, 255},
                new int[] {-32768, -32768, -32768, 0, 32767, 32767, 32767});
    }

    private void applyAround() {
        int f = room.filter(4, 1, 0);
        room.weight(f, 0, 1);
        int[] from = {1, 2, 3, 4, 5, 6};
        int[][] upLeft = {{1, 1, 2, 1, 1, 2}, {1, 1, 2, 1, 1, 2}, {6, 4, 5, 3, 1, 2}, {0, 0, 0, 0, 1, 2}};
        for (int edge = 0; edge < 4; edge++) {
            lay(0, 0, 3, from);
            room.apply(0, f, edge);
            duePicture("up and left, edge " + edge, 0, 0, 3, upLeft[edge]);
        }
        room.weight(f, 0, 0);
        room.weight(f, 5, -1);
        room.weight(f, 7, 2);
        lay(0, 1, 3, from);
        due("right and beneath", room.apply(0, f, 3), 6);
        duePicture("right and beneath", 0, 1, 3, 6, 7, 12, -5, -6, 0);
        int half = room.filter(4, 2, 0);
        room.weight(half, 4, 1);
        lay(0, 1, 4, 1, -1, 3, -3);
        due("half goes up", room.apply(0, half, 0), 3);
        duePicture("half goes up", 0, 1, 4, 1, 0, 2, -1);
        int great = room.filter(4, 1, 0);
        for (int i = 0; i < 9; i++) {
            room.weight(great, i, 1000);
        }
        lay(0, 1, 1, -32768);
        room.apply(0, great, 0);
        duePicture("kept", 0, 1, 1, -32768);
        lay(0, 0, 2, 0, 1);
        room.apply(0, great, 3);
        duePicture("kept", 0, 0, 2, 255, 255);
        // Around the first PIXEL stand 1 2 4 5 and five noughts, around the second 1 to 6 and three noughts.
        int[][] ranks = {{0, 0, 0}, {4, 0, 2}, {5, 1, 3}, {8, 5, 6}};
        for (int[] rank : ranks) {
            int k = room.filter(5, rank[0], 0);
            lay(0, 0, 3, from);
            room.apply(0, k, 3);
            due("rank " + rank[0] + ", first", room.at(0, 0, 0, 0), rank[1]);
            due("rank " + rank[0] + ", second", room.at(0, 1, 0, 0), rank[2]);
        }
        lay(0, 1, 2, -5, 5);
        room.apply(0, room.filter(5, 0, 0), 0);
        duePicture("rank of shorts", 0, 1, 2, -5, -5);
        for (int k = 0; k < 9; k++) {
            lay(0, 0, 3, 9, 8, 7, 6, 5, 4, 3, 2, 1);
            room.apply(0, room.filter(5, k, 0), 0);
            due("rank " + k + " of falling ones", room.at(0, 1, 1, 0), k + 1);
        }
    }

    private void applyTogether() {
        int add = room.filter(0, 200, 0);
        int turn = room.filter(1, 0, 0);
        int shift = room.filter(4, 1, 0);
        room.weight(shift, 3, 1);
        int addTurn = room.filter(6, add, turn);
        int turnAdd = room.filter(6, turn, add);
        lay(0, 0, 2, 10, 100);
        due("THEN", room.apply(0, addTurn, 0), 2);
        duePicture("THEN", 0, 0, 2, 45, 0);
        lay(0, 0, 2, 10, 100);
        room.apply(0, turnAdd, 0);
        duePicture("THEN, turned about", 0, 0, 2, 255, 255);
        int twice = room.filter(6, shift, shift);
        int fourTimes = room.filter(6, twice, twice);
        lay(0, 0, 6, 1, 2, 3, 4, 5, 6);
        room.apply(0, twice, 3);
        duePicture("the PICTURE as it was, then as it became", 0, 0, 6, 0, 0, 1, 2, 3, 4);
        lay(0, 0, 6, 1, 2, 3, 4, 5, 6);
        room.apply(0, fourTimes, 2);
        duePicture("four times", 0, 0, 6, 3, 4, 5, 6, 1, 2);
        int both = room.filter(8, room.filter(0, -1, 0), room.filter(0, 0, 0));
        lay(0, 1, 3, 0, -4, 7);
        due("BOTH, rounded down", room.apply(0, both, 0), 3);
        duePicture("BOTH, rounded down", 0, 1, 3, -1, -5, 6);
        int bothOfBoth = room.filter(8, both, room.filter(8, turn, both));
        lay(0, 1, 2, 10, -11);
        room.apply(0, bothOfBoth, 0);
        duePicture("BOTH of BOTH", 0, 1, 2, 4, -7);
        int where = room.filter(7, 3, turn);
        room.mask(3, 1, 1, true);
        lay(0, 0, 2, 1, 2, 3, 4);
        due("WHERE", room.apply(0, where, 0), 1);
        duePicture("WHERE", 0, 0, 2, 1, 2, 3, 251);
        room.weight(shift, 3, 0);
        due("a weight told later", room.apply(0, twice, 0), 4);
        duePicture("a weight told later", 0, 0, 2, 0, 0, 0, 0);
        int thenWhere = room.filter(6, add, where);
        lay(0, 0, 2, 1, 2, 3, 4);
        room.apply(0, thenWhere, 0);
        duePicture("WHERE leaves what it is given", 0, 0, 2, 201, 202, 203, 51);
        int where2 = room.filter(7, 2, where);
        int where1 = room.filter(7, 1, where2);
        for (int m = 1; m < 4; m++) {
            room.mask(m, 0, 0, m > 1);
            room.mask(m, 1, 0, true);
        }
        lay(0, 0, 2, 1, 2);
        due("WHERE of WHERE of WHERE", room.apply(0, where1, 0), 1);
        duePicture("WHERE of WHERE of WHERE", 0, 0, 2, 1, 253);
        int bothHigh = room.filter(8, room.filter(6, twice, add), fourTimes);
        room.weight(shift, 3, 1);
        lay(0, 0, 6, 1, 2, 3, 4, 5, 6);
        room.apply(0, bothHigh, 2);
        duePicture("BOTH of THENs", 0, 0, 6, 104, 105, 103, 104, 102, 103);
    }

    private void applyWrong() {
        room.filter(0, 0, 0);
        room.picture(0, 0, 1, 1);
        due("nothing changed, an act", room.apply(0, 0, 0), 0);
        due("nothing changed, an act", room.count(2), 2);
        due("missing", room.apply(1, 0, 0), NO);
        due("missing, no filter", room.apply(1, 1, 0), BAD);
        due("missing, edge", room.apply(1, 0, 4), BAD);
        due("no filter", room.apply(0, 1, 0), BAD);
        due("no filter", room.apply(0, -1, 0), BAD);
        due("no filter", room.apply(0, 24, 0), BAD);
        due("edge", room.apply(0, 0, -1), BAD);
        due("edge", room.apply(0, 0, 4), BAD);
        due("no picture", room.apply(8, 0, 0), BAD);
        due("no picture", room.apply(-1, 0, 0), BAD);
    }

    private void mask() {
        due("was OFF", room.mask(5, 15, 0, true), 0);
        due("was ON", room.mask(5, 15, 0, true), 1);
        due("isOn", room.isOn(5, 15, 0), 1);
        due("not the other way round", room.isOn(5, 0, 15), 0);
        due("not another MASK", room.isOn(4, 15, 0), 0);
        due("OFF", room.mask(5, 15, 0, false), 1);
        due("isOn", room.isOn(5, 15, 0), 0);
        due("was OFF", room.mask(5, 15, 0, false), 0);
        due("acts", room.count(2), 4);
        int[][] wrong = {{6, 0, 0}, {-1, 0, 0}, {0, 16, 0}, {0, -1, 0}, {0, 0, 16}, {0, 0, -1}, {MAX, MIN, MAX}};
        for (int[] w : wrong) {
            due("mask wrong", room.mask(w[0], w[1], w[2], true), BAD);
            due("isOn wrong", room.isOn(w[0], w[1], w[2]), BAD);
        }
        due("acts", room.count(2), 4);
    }

    private void maskOf() {
        lay(0, 1, 3, -5, 0, 5, 6, 7, -6);
        room.mask(2, 9, 9, true);
        room.mask(2, 2, 1, true);
        due("from low to high", room.maskOf(2, 0, -5, 6), 4);
        int[] want = {1, 1, 1, 1, 0, 0};
        for (int i = 0; i < 6; i++) {
            due("at " + i, room.isOn(2, i % 3, i / 3), want[i]);
        }
        due("OFF elsewhere", room.isOn(2, 9, 9), 0);
        due("low above high", room.maskOf(2, 0, 6, -5), 0);
        due("all", room.maskOf(2, 0, MIN, MAX), 6);
        room.maskBy(4, 5, 3);
        for (int i = 0; i < 40; i++) {
            room.maskBy(4, 4, 4);
        }
        due("after many acts", room.maskOf(1, 0, -5, 6), 4);
        due("missing", room.maskOf(2, 1, 0, 0), NO);
        due("missing, no mask", room.maskOf(6, 1, 0, 0), BAD);
        due("no picture", room.maskOf(0, 8, 0, 0), BAD);
        due("no picture", room.maskOf(0, -1, 0, 0), BAD);
        due("no mask", room.maskOf(-1, 0, 0, 0), BAD);
    }

    private void maskBy() {
        int[][] want = {{0, 0, 0, 1}, {0, 1, 1, 1}, {0, 1, 1, 0}, {1, 0, 1, 0}, {0, 1, 0, 1}};
        int[] many = {1, 3, 2, 254, 2};
        for (int how = 0; how < 5; how++) {
            room.maskBy(0, 5, 4);
            room.maskBy(1, 5, 4);
            room.mask(0, 2, 0, true);
            room.mask(0, 3, 0, true);
            room.mask(1, 1, 0, true);
            room.mask(1, 3, 0, true);
            due("how " + how, room.maskBy(0, 1, how), many[how]);
            for (int x = 0; x < 4; x++) {
                due("how " + how + " at " + x, room.isOn(0, x, 0), want[how][x]);
            }
            due("n stays", room.isOn(1, 1, 0) + room.isOn(1, 2, 0), 1);
        }
        due("itself, what it is not", room.maskBy(1, 1, 3), 254);
        due("itself, UNLIKE", room.maskBy(1, 1, 2), 0);
        int[][] wrong = {{6, 0, 0}, {-1, 0, 0}, {0, 6, 0}, {0, -1, 0}, {0, 1, 7}, {0, 1, -1}};
        for (int[] w : wrong) {
            due("wrong", room.maskBy(w[0], w[1], w[2]), BAD);
        }
    }

    private void maskGrownShrunk() {
        room.mask(0, 15, 15, true);
        room.mask(0, 5, 7, true);
        due("grown", room.maskBy(1, 0, 5), 8);
        int[][] on = {{15, 15}, {14, 15}, {15, 14}, {5, 7}, {4, 7}, {6, 7}, {5, 6}, {5, 8}};
        for (int[] xy : on) {
            due("grown at " + xy[0] + " " + xy[1], room.isOn(1, xy[0], xy[1]), 1);
        }
        due("shrunk", room.maskBy(2, 1, 6), 2);
        due("shrunk", room.isOn(2, 15, 15) + room.isOn(2, 5, 7), 2);
        due("shrunk to nothing", room.maskBy(2, 0, 6), 0);
        due("all", room.maskBy(3, 4, 3), 256);
        due("all, grown", room.maskBy(3, 3, 5), 256);
        due("all, shrunk: what is beyond does not count", room.maskBy(3, 3, 6), 256);
        room.mask(3, 0, 3, false);
        due("itself, shrunk", room.maskBy(3, 3, 6), 252);
        due("itself, grown", room.maskBy(3, 3, 5), 255);
        due("the hole stays", room.isOn(3, 0, 3), 0);
        room.maskBy(3, 4, 3);
        int[][] holes = {{7, 7}, {0, 0}, {15, 2}, {3, 15}};
        for (int[] hole : holes) {
            room.mask(3, hole[0], hole[1], false);
        }
        due("holes shrunk", room.maskBy(3, 3, 6), 256 - 5 - 3 - 4 - 4);
        int[][] off = {{6, 7}, {8, 7}, {7, 6}, {7, 8}, {1, 0}, {0, 1}, {14, 2}, {15, 1}, {15, 3}, {2, 15}, {4, 15}, {3, 14}};
        for (int[] xy : off) {
            due("holes shrunk at " + xy[0] + " " + xy[1], room.isOn(3, xy[0], xy[1]), 0);
        }
    }

    private void fill() {
        lay(0, 0, 4, 10, 12, 30, 10, 11, 30, 10, 10, 9, 8, 13, 30);
        due("within 2", room.fill(0, 0, 0, 2, 99), 5);
        duePicture("within 2", 0, 0, 4, 99, 99, 30, 10, 99, 30, 10, 10, 99, 99, 13, 30);
        due("t = 0", room.fill(0, 3, 0, 0, 10), 3);
        duePicture("already so", 0, 0, 4, 99, 99, 30, 10, 99, 30, 10, 10, 99, 99, 13, 30);
        due("off the first one's, not the neighbour's", room.fill(0, 2, 2, 3, 1), 4);
        duePicture("off the first", 0, 0, 4, 99, 99, 30, 1, 99, 30, 1, 1, 99, 99, 1, 30);
        due("all", room.fill(0, 3, 2, MAX, 255), 12);
        due("all", room.about(0, 3), 255);
        lay(1, 1, 3, -32768, 32767, 0);
        due("wide", room.fill(1, 0, 0, 65534, 5), 1);
        duePicture("wide", 1, 1, 3, 5, 32767, 0);
        due("not across corners", fillDiagonal(), 1);
        lay(3, 0, 1, 4, 4, 4, 5);
        due("one wide", room.fill(3, 0, 1, 0, 6), 3);
        duePicture("one wide", 3, 0, 1, 6, 6, 6, 5);
        room.picture(3, 1, 16, 16);
        due("all of the greatest", room.fill(3, 8, 8, 0, -1), 256);
        due("all of the greatest", room.about(3, 5), -256);
        room.picture(3, 0, 3, 3);
        room.put(3, 1, 0, 1);
        room.put(3, 1, 1, 1);
        due("a way around", room.fill(3, 0, 0, 0, 9), 7);
        duePicture("a way around", 3, 0, 3, 9, 1, 9, 9, 1, 9, 9, 9, 9);
        due("t below 0", room.fill(0, 0, 0, -1, 0), BAD);
        due("BAD comes first", room.fill(7, 0, 0, MIN, 0), BAD);
        due("no picture", room.fill(8, 0, 0, 0, 0), BAD);
        due("no picture", room.fill(-1, 0, 0, 0, 0), BAD);
        due("missing", room.fill(7, 0, 0, 0, 0), NO);
        due("beyond", room.fill(0, 4, 0, 0, 0), NO);
        due("beyond", room.fill(0, 0, 3, 0, 0), NO);
        due("beyond", room.fill(0, -1, 0, 0, 0), NO);
        due("beyond", room.fill(0, 0, -1, 0, 0), NO);
        due("v", room.fill(0, 0, 0, 0, 256), NO);
        due("v", room.fill(0, 0, 0, 0, -1), NO);
        due("v", room.fill(1, 0, 0, 0, 32768), NO);
    }

    private int fillDiagonal() {
        lay(2, 0, 2, 1, 0, 0, 1);
        return room.fill(2, 0, 0, 0, 7);
    }

    private void dither() {
        lay(0, 0, 2, 64, 200, 200, 200);
        due("three levels", room.dither(0, 3), 4);
        duePicture("three levels", 0, 0, 2, 127, 127, 127, 255);
        lay(0, 0, 1, 128);
        due("128 of two", room.dither(0, 2), 1);
        duePicture("128 of two", 0, 0, 1, 255);
        lay(0, 0, 1, 127);
        room.dither(0, 2);
        duePicture("127 of two", 0, 0, 1, 0);
        lay(0, 0, 3, 0, 17, 255);
        due("sixteen levels", room.dither(0, 16), 0);
        int[][] nearest = {{8, 0}, {9, 17}, {25, 17}, {26, 34}, {246, 238}, {247, 255}};
        for (int[] one : nearest) {
            lay(0, 0, 1, one[0]);
            room.dither(0, 16);
            due("sixteen levels, " + one[0], room.at(0, 0, 0, 0), one[1]);
        }
        lay(0, 0, 1, 100, 100, 100);
        due("one wide", room.dither(0, 2), 3);
        duePicture("one wide", 0, 0, 1, 0, 255, 0);
        lay(0, 0, 3, 60, 60, 60, 60, 60, 60);
        room.dither(0, 2);
        duePicture("carried to the left beneath", 0, 0, 3, 0, 0, 0, 0, 255, 0);
        carried();
        due("n = 1", room.dither(0, 1), BAD);
        due("n = 17", room.dither(0, 17), BAD);
        due("n = 1, missing", room.dither(1, 1), BAD);
        due("missing", room.dither(1, 2), NO);
        due("no picture", room.dither(8, 2), BAD);
        due("no picture", room.dither(-1, 2), BAD);
        lay(1, 1, 1, 5);
        due("shorts", room.dither(1, 2), NO);
    }

    /** Two levels: 128 becomes 255, 127 becomes 0, so each part that is carried shows by one. */
    private void carried() {
        dithered("right", 2, new int[] {127, 73}, 0, 255);
        dithered("right", 2, new int[] {127, 72}, 0, 0);
        dithered("right, below 0", 2, new int[] {128, 183}, 255, 255);
        dithered("right, below 0", 2, new int[] {128, 182}, 255, 0);
        dithered("beneath", 1, new int[] {127, 89}, 0, 255);
        dithered("beneath", 1, new int[] {127, 88}, 0, 0);
        dithered("beneath, below 0", 1, new int[] {128, 167}, 255, 255);
        dithered("beneath, below 0", 1, new int[] {128, 166}, 255, 0);
        dithered("to the left", 2, new int[] {0, 127, 105, 255}, 0, 0, 255, 255);
        dithered("to the left", 2, new int[] {0, 127, 104, 0}, 0, 0, 0, 0);
        dithered("to the left, below 0", 2, new int[] {255, 128, 151, 255}, 255, 255, 255, 255);
        dithered("to the left, below 0", 2, new int[] {255, 128, 150, 0}, 255, 255, 0, 0);
        dithered("what is left", 2, new int[] {127, 200, 216, 118}, 0, 255, 255, 255);
        dithered("what is left", 2, new int[] {127, 200, 216, 117}, 0, 255, 255, 0);
        dithered("what is left, below 0", 2, new int[] {128, 55, 39, 138}, 255, 0, 0, 255);
        dithered("what is left, below 0", 2, new int[] {128, 55, 39, 137}, 255, 0, 0, 0);
        dithered("above the greatest", 2, new int[] {127, 255, 255, 80}, 0, 255, 255, 255);
        dithered("above the greatest", 2, new int[] {127, 255, 255, 79}, 0, 255, 255, 0);
    }

    private void dithered(String call, int w, int[] from, int... to) {
        lay(0, 0, w, from);
        due(call, room.dither(0, 2), changes(from, to));
        duePicture(call, 0, 0, w, to);
    }

    private void even() {
        lay(0, 0, 3, 5, 6, 7);
        due("a half goes up", room.even(0), 3);
        duePicture("a half goes up", 0, 0, 3, 0, 128, 255);
        due("is even", room.even(0), 0);
        lay(0, 0, 4, 9, 200, 9, 200, 201, 9, 255, 0);
        due("many alike", room.even(0), 6);
        duePicture("many alike", 0, 0, 4, 109, 182, 109, 182, 219, 109, 255, 0);
        lay(0, 0, 2, 77, 77);
        due("one v alone", room.even(0), 0);
        duePicture("one v alone", 0, 0, 2, 77, 77);
        due("missing", room.even(1), NO);
        due("no picture", room.even(8), BAD);
        due("no picture", room.even(-1), BAD);
        lay(1, 1, 2, 5, 6);
        due("shorts", room.even(1), NO);
    }

    private void energy() {
        lay(0, 0, 3, 10, 20, 35, 40, 50, 60, 90, 0, 1);
        int[] want = {10 + 30, 25 + 30, 15 + 25, 10 + 80, 20 + 20, 10 + 34, 90 + 50, 89 + 50, 1 + 59};
        for (int i = 0; i < 9; i++) {
            due("at " + i, room.energy(0, i % 3, i / 3), want[i]);
        }
        lay(1, 1, 2, -32768, 32767, 32767, -32768);
        due("greatest", room.energy(1, 0, 0), 131070);
        lay(2, 0, 1, 8);
        due("alone", room.energy(2, 0, 0), 0);
        due("beyond", room.energy(0, 3, 0), NO);
        due("beyond", room.energy(0, 0, 3), NO);
        due("beyond", room.energy(0, -1, 0), NO);
        due("beyond", room.energy(0, 0, -1), NO);
        due("missing", room.energy(3, 0, 0), NO);
        due("no picture", room.energy(8, 0, 0), BAD);
        due("no picture", room.energy(-1, 0, 0), BAD);
    }

    private void seam() {
        java.util.Random random = new java.util.Random(7);
        for (int round = 0; round < 60; round++) {
            room = new DarkRoom();
            int w = 1 + random.nextInt(5);
            int h = 1 + random.nextInt(5);
            int[] pixels = new int[w * h];
            int shades = 1 + random.nextInt(3);
            for (int i = 0; i < pixels.length; i++) {
                pixels[i] = random.nextInt(shades + 1) * (round % 2 == 0 ? 1 : 100);
            }
            lay(0, round % 3 == 0 ? 1 : 0, w, pixels);
            int[] best = null;
            for (int way = 0; way < w * (int) Math.pow(3, h - 1); way++) {
                int[] tried = tried(way, w, h);
                best = tried == null || best != null && java.util.Arrays.compare(best, tried) <= 0 ? best : tried;
            }
            due("energy of round " + round, room.seam(0, -1), best[0]);
            for (int y = 0; y < h; y++) {
                due("round " + round + " row " + y, room.seam(0, y), best[h - y]);
            }
        }
        room.picture(0, 0, 2, 3);
        due("y below -1", room.seam(0, -2), BAD);
        due("y below -1, missing", room.seam(1, MIN), BAD);
        due("beyond", room.seam(0, 3), NO);
        due("beyond", room.seam(0, MAX), NO);
        due("missing", room.seam(1, -1), NO);
        due("no picture", room.seam(8, 0), BAD);
        due("no picture", room.seam(-1, 0), BAD);
    }

    /** The energy of one way, then its x from the last row up; null if it leaves the picture. */
    private int[] tried(int way, int w, int h) {
        int[] told = new int[h + 1];
        int x = way % w;
        int rest = way / w;
        for (int y = h - 1; y >= 0; y--) {
            if (x < 0 || x >= w) {
                return null;
            }
            told[h - y] = x;
            told[0] += room.energy(0, x, y);
            x += rest % 3 - 1;
            rest /= 3;
        }
        return told;
    }

    private void seamGoes() {
        lay(0, 0, 3, 10, 20, 30, 40, 50, 60);
        due("goes", room.seamGoes(0, 0), 2);
        duePicture("goes", 0, 0, 2, 20, 30, 50, 60);
        due("goes", room.seamGoes(0, 0), 1);
        due("WIDTH 0", room.seamGoes(0, 0), NO);
        due("doubled", room.seamGoes(0, 1), 2);
        lay(1, 0, 4, 0, 50, 50, 50, 90, 9, 8, 7);
        due("traced anew", room.seamGoes(1, 0), 3);
        duePicture("traced anew", 1, 0, 3, 0, 50, 50, 90, 9, 7);
        lay(1, 1, 3, 0, 9, 9, 0, -9, 9);
        int top = room.seam(1, 0);
        int bottom = room.seam(1, 1);
        due("doubled", room.seamGoes(1, 1), 4);
        int[] rows = {0, 9, 9, 0, -9, 9};
        for (int x = 0; x < 4; x++) {
            due("doubled, above", room.at(1, x, 0, 0), rows[x <= top ? x : x - 1]);
            due("doubled, beneath", room.at(1, x, 1, 0), rows[3 + (x <= bottom ? x : x - 1)]);
        }
        due("kind", room.about(1, 0), 1);
        room.picture(2, 0, 16, 2);
        due("WIDTH 17", room.seamGoes(2, 1), NO);
        due("15", room.seamGoes(2, 0), 15);
        due("16", room.seamGoes(2, 1), 16);
        due("missing", room.seamGoes(3, 0), NO);
        due("missing", room.seamGoes(3, 1), NO);
        due("missing, how", room.seamGoes(3, 2), BAD);
        due("how", room.seamGoes(0, 2), BAD);
        due("how", room.seamGoes(0, -1), BAD);
        due("no picture", room.seamGoes(8, 0), BAD);
        due("no picture", room.seamGoes(-1, 0), BAD);
    }

    private void dueRuns(String call, int p, int... bytes) {
        due(call + ": how many", room.runs(p, -1), bytes.length);
        for (int i = 0; i < bytes.length; i++) {
            due(call + ": byte " + i, room.runs(p, i), bytes[i]);
        }
        due(call + ": behind", room.runs(p, bytes.length), NONE);
        due(call + ": far behind", room.runs(p, MAX), NONE);
    }

    private void runs() {
        lay(0, 0, 3, 1, 2, 2, 2, 2, 3);
        dueRuns("over the ends of rows", 0, 0, 3, 2, 1, 1, 4, 2, 1, 3);
        lay(1, 1, 2, -300, -300, 255, 256);
        dueRuns("shorts", 1, 1, 2, 2, 2, 254, 212, 1, 0, 255, 1, 1, 0);
        room.picture(2, 0, 16, 16);
        dueRuns("255 at most", 2, 0, 16, 16, 255, 0, 1, 0);
        room.put(2, 15, 15, 5);
        dueRuns("255, another", 2, 0, 16, 16, 255, 0, 1, 5);
        room.picture(2, 1, 16, 16);
        room.put(2, 0, 0, 1);
        dueRuns("255 from the second on", 2, 1, 16, 16, 1, 0, 1, 255, 0, 0);
        due("i below -1", room.runs(0, -2), BAD);
        due("i below -1, missing", room.runs(3, MIN), BAD);
        due("missing", room.runs(3, 0), NO);
        due("no picture", room.runs(8, -1), BAD);
        due("no picture", room.runs(-1, -1), BAD);
    }

    private int readOf(int q, int... bytes) {
        for (int v : bytes) {
            room.byteTo(v);
        }
        return room.read(q);
    }

    private void read() {
        due("bytes", readOf(0, 0, 3, 2, 1, 1, 4, 2, 1, 255), 6);
        duePicture("bytes", 0, 0, 3, 1, 2, 2, 2, 2, 255);
        due("empty then", room.count(4), 0);
        due("shorts", readOf(0, 1, 1, 3, 2, 254, 212, 1, 127, 255), 3);
        duePicture("shorts", 0, 1, 1, -300, -300, 32767);
        due("runs need not be the greatest", readOf(7, 0, 2, 1, 1, 6, 1, 6), 2);
        duePicture("runs need not be the greatest", 7, 0, 2, 6, 6);
        due("greatest size", readOf(1, 0, 16, 16, 255, 4, 1, 3), 256);
        due("greatest size", room.at(1, 14, 15, 0), 4);
        due("greatest size", room.at(1, 15, 15, 0), 3);
        due("an act", room.undo(), 1);
        due("an act", room.about(1, 0), NONE);
        due("again", room.redo(), 1);
        due("again", room.about(1, 5), 255 * 4 + 3);
        room.byteTo(1);
        due("BAD", room.read(8), BAD);
        due("BAD", room.read(-1), BAD);
        due("the tape stays", room.count(4), 1);
    }

    private void readFaults() {
        lay(0, 0, 1, 42);
        int[][] faulty = {{}, {2}, {0}, {0, 0}, {0, 17}, {1, 16}, {0, 1, 0}, {1, 16, 17}, {0, 2, 2}, {0, 2, 2, 0},
            {0, 2, 2, 5}, {0, 2, 2, 3}, {0, 2, 2, 3, 9}, {0, 2, 2, 3, 9, 2}, {0, 2, 2, 3, 9, 0, 1}, {0, 2, 2, 3, 9, 1},
            {0, 2, 2, 4, 9, 1}, {0, 2, 2, 4, 9, 0, 0}, {1, 1, 1, 1}, {1, 1, 1, 1, 5}, {1, 1, 1, 1, 5, 5, 5}, {255, 0, 0}};
        int[] place = {0, 0, 1, 1, 1, 2, 2, 2, 3, 3, 3, 4, 5, 5, 5, 6, 5, 5, 4, 5, 6, 0};
        int acts = room.count(2);
        for (int i = 0; i < faulty.length; i++) {
            due("fault " + i, readOf(0, faulty[i]), -1 - place[i]);
            due("the tape is empty after fault " + i, room.count(4), 0);
        }
        duePicture("stays", 0, 0, 1, 42);
        due("no acts", room.count(2), acts);
        for (int i = 0; i < 3; i++) {
            readOf(1, 1, 1, 1, 1, 5, 5);
            due("bytes of an earlier tape are gone: " + i, readOf(0, java.util.Arrays.copyOf(new int[] {1, 1}, i)), -1 - i);
        }
        readOf(1, 0, 3, 1, 1, 5, 1, 6, 1, 7);
        due("bytes of an earlier tape are gone", readOf(0, 0, 3, 1, 1, 5), -6);
        readOf(1, 0, 3, 1, 1, 5, 1, 6, 1, 7);
        due("bytes of an earlier tape are gone", readOf(0, 0, 3, 1), -4);
    }

    private void byteTo() {
        due("first", room.byteTo(0), 1);
        due("second", room.byteTo(255), 2);
        due("256", room.byteTo(256), BAD);
        due("-1", room.byteTo(-1), BAD);
        due("count", room.count(4), 2);
        due("no act", room.count(2), 0);
        for (int i = 3; i <= 800; i++) {
            due("more", room.byteTo(i % 256), i);
        }
        due("801st", room.byteTo(0), FULL);
        due("BAD comes first", room.byteTo(256), BAD);
        due("count", room.count(4), 800);
    }

    private void undoRedo() {
        room.picture(0, 0, 2, 1);
        room.put(0, 0, 0, 5);
        room.mask(1, 2, 3, true);
        room.put(0, 1, 0, 6);
        due("undo", room.undo(), 1);
        duePicture("second put taken back", 0, 0, 2, 5, 0);
        due("the mask stays", room.isOn(1, 2, 3), 1);
        due("undo", room.undo(), 1);
        due("the mask is OFF", room.isOn(1, 2, 3), 0);
        due("undo", room.undo(), 1);
        due("undo", room.undo(), 1);
        due("missing", room.about(0, 0), NONE);
        due("no more", room.undo(), NO);
        due("4 again", room.count(3), 4);
        due("redo", room.redo(), 1);
        duePicture("made again", 0, 0, 2, 0, 0);
        due("redo", room.redo(), 1);
        duePicture("put again", 0, 0, 2, 5, 0);
        due("redo", room.redo(), 1);
        due("the mask is ON", room.isOn(1, 2, 3), 1);
        due("refused", room.put(0, 2, 0, 0), BAD);
        due("a refused one leaves what can be done again", room.redo(), 1);
        duePicture("put again", 0, 0, 2, 5, 6);
        due("no more", room.redo(), NO);
        room.undo();
        room.undo();
        room.put(0, 1, 0, 7);
        due("another act came", room.redo(), NO);
        due("another act came", room.count(3), 0);
        due("undo", room.undo(), 1);
        duePicture("after", 0, 0, 2, 5, 0);
    }

    private void acts() {
        room.filter(1, 0, 0);
        due("picture", room.picture(0, 0, 4, 4), 0);
        for (int act = 0; act < 14; act++) {
            due("done", room.count(2), act + 1);
            act(act);
        }
        due("done", room.count(2), 15);
        room.filter(1, 0, 0);
        room.at(0, 0, 0, 0);
        room.about(0, 0);
        room.unlike(0, 0);
        room.isOn(0, 0, 0);
        room.energy(0, 0, 0);
        room.seam(0, 0);
        room.runs(0, 0);
        room.byteTo(0);
        room.count(0);
        due("the others are none", room.count(2), 15);
        for (int i = 0; i < 15; i++) {
            due("undo " + i, room.undo(), 1);
        }
        due("all missing again", room.count(1), 0);
        due("FILTERS stay", room.count(0), 2);
        due("THE TAPE stays", room.count(4), 1);
    }

    private void act(int which) {
        switch (which) {
            case 0 -> due("put", room.put(0, 0, 0, 0), 0);
            case 1 -> due("feed", room.feed(0, 0, 0, 0, 1), 1);
            case 2 -> due("convert", room.convert(0, 0, 0, 0), 0);
            case 3 -> due("cut", room.cut(0, 0, 0, 0, 4, 4, 0), 0);
            case 4 -> due("turn", room.turn(0, 1, 0), 0);
            case 5 -> due("apply", room.apply(0, 0, 0), 16);
            case 6 -> due("mask", room.mask(0, 0, 0, false), 0);
            case 7 -> due("maskOf", room.maskOf(0, 0, 9, 8), 0);
            case 8 -> due("maskBy", room.maskBy(0, 0, 4), 0);
            case 9 -> due("fill", room.fill(0, 0, 0, 0, 255), 16);
            case 10 -> due("dither", room.dither(0, 2), 0);
            case 11 -> due("even", room.even(0), 0);
            case 12 -> due("seamGoes", room.seamGoes(0, 0), 3);
            default -> due("read", readOf(2, 0, 1, 1, 1, 1), 1);
        }
    }

    private void sixteen() {
        room.picture(0, 0, 1, 1);
        for (int v = 1; v <= 40; v++) {
            room.put(0, 0, 0, v);
            due("kept", room.count(2), Math.min(16, v + 1));
        }
        for (int v = 39; v >= 24; v--) {
            due("undo", room.undo(), 1);
            due("was", room.at(0, 0, 0, 0), v);
        }
        due("a 17th", room.undo(), NO);
        due("stays", room.at(0, 0, 0, 0), 24);
        due("again", room.count(3), 16);
        for (int v = 25; v <= 40; v++) {
            due("redo", room.redo(), 1);
            due("is", room.at(0, 0, 0, 0), v);
        }
        due("no more", room.redo(), NO);
    }

    private void count() {
        room.filter(1, 0, 0);
        room.filter(1, 0, 0);
        room.picture(3, 0, 1, 1);
        room.picture(7, 1, 1, 1);
        room.picture(0, 1, 1, 1);
        room.picture(0, -1, 0, 0);
        room.put(3, 0, 0, 4);
        room.undo();
        room.byteTo(5);
        room.byteTo(6);
        room.byteTo(7);
        int[] want = {2, 2, 4, 1, 3};
        for (int what = 0; what < 5; what++) {
            due("count " + what, room.count(what), want[what]);
        }
        for (int p = 0; p < 8; p++) {
            room.picture(p, 0, 1, 1);
        }
        due("all eight", room.count(1), 8);
        due("what", room.count(5), BAD);
        due("what", room.count(-1), BAD);
        due("what", room.count(MIN), BAD);
    }

    private void refused() {
        lay(0, 1, 2, 3, -4, 5, 6);
        room.mask(0, 1, 1, true);
        room.filter(0, 7, 0);
        room.byteTo(9);
        room.undo();
        room.redo();
        room.put(0, 0, 0, 8);
        room.undo();
        int[] before = {room.count(0), room.count(1), room.count(2), room.count(3), room.count(4)};
        room.put(0, 0, 0, 40000);
        room.feed(0, 1, 1, 0, 4);
        room.convert(1, 0, 0, 0);
        room.cut(1, 0, 0, 0, 1, 1, 0);
        room.turn(0, 1, 8);
        room.turn(1, 0, 0);
        room.apply(0, 1, 0);
        room.maskOf(0, 1, 0, 0);
        room.maskBy(0, 1, 7);
        room.fill(0, 0, 0, 0, 40000);
        room.dither(0, 2);
        room.even(0);
        room.seamGoes(0, 2);
        room.read(8);
        room.byteTo(256);
        room.filter(6, 0, 1);
        room.picture(0, 0, 17, 1);
        for (int what = 0; what < 5; what++) {
            due("count " + what, room.count(what), before[what]);
        }
        duePicture("stays", 0, 1, 2, 3, -4, 5, 6);
        due("stays", room.isOn(0, 1, 1), 1);
        due("redo", room.redo(), 1);
        duePicture("redo", 0, 1, 2, 8, -4, 5, 6);
    }
}
