/** The bounds of the promises 18 to 26: fills, tones, seams, runs, the tape. */
final class BoundsOfTones extends Bounds {
    private static final Call FILL = (r, a) -> r.fill(a[0], a[1], a[2], a[3], a[4]);
    private static final Call DITHER = (r, a) -> r.dither(a[0], a[1]);
    private static final Call EVEN = (r, a) -> r.even(a[0]);
    private static final Call ENERGY = (r, a) -> r.energy(a[0], a[1], a[2]);
    private static final Call SEAM = (r, a) -> r.seam(a[0], a[1]);
    private static final Call SEAM_GOES = (r, a) -> r.seamGoes(a[0], a[1]);
    private static final Call RUNS = (r, a) -> r.runs(a[0], a[1]);
    private static final Call READ = (r, a) -> r.read(a[0]);
    private static final Call BYTE_TO = (r, a) -> r.byteTo(a[0]);

    BoundsOfTones(Check check, Document document) {
        super(check, document);
    }

    void all() {
        filled();
        fill();
        ditherLevels();
        ditherCarries();
        dither();
        even();
        energy();
        seam();
        seamTies();
        seamGoes();
        runs();
        runBytes();
        read();
        readFaults();
        readFaultsChangeNothing();
        byteTo();
    }

    private void filledFrom(int x, int y, int t, int[] from, int... to) {
        room = new DarkRoom();
        lay(0, SHORTS, 4, from);
        int many = 0;
        for (int v : to) {
            many += v == 99 ? 1 : 0;
        }
        due("from " + x + ", " + y + " with " + t, room.fill(0, x, y, t, 99), many);
        duePicture("from " + x + ", " + y + " with " + t, 0, SHORTS, 4, to);
    }

    private void filled() {
        says(18, "FILLED from a PIXEL with a TOLERANCE t and a v: all PIXELS to which a way leads over neighbours (beside, "
                + "above, beneath) whose PIXELS are at most t off the first one's become v.");
        int[] from = {5, 6, 7, 8, 4, 9, 9, 9, 3, 9, 5, 5};
        filledFrom(0, 0, 0, from, 99, 6, 7, 8, 4, 9, 9, 9, 3, 9, 5, 5);
        filledFrom(0, 0, 1, from, 99, 99, 7, 8, 99, 9, 9, 9, 3, 9, 5, 5);
        filledFrom(0, 0, 2, from, 99, 99, 99, 8, 99, 9, 9, 9, 99, 9, 5, 5);
        filledFrom(0, 0, 3, from, 99, 99, 99, 99, 99, 9, 9, 9, 99, 9, 5, 5);
        filledFrom(0, 0, 4, from, alike(12, 99));
        filledFrom(3, 2, 0, from, 5, 6, 7, 8, 4, 9, 9, 9, 3, 9, 99, 99);
        filledFrom(3, 0, 1, from, 5, 6, 99, 99, 4, 99, 99, 99, 3, 99, 5, 5);
        filledFrom(0, 2, 0, from, 5, 6, 7, 8, 4, 9, 9, 9, 99, 9, 5, 5);
        filledFrom(1, 1, 0, from, 5, 6, 7, 8, 4, 99, 99, 99, 3, 99, 5, 5);
        filledFrom(1, 1, MAX, from, alike(12, 99));
        int[] cross = {1, 2, 1, 2, 2, 1, 2, 1, 1, 2, 1, 2};
        filledFrom(1, 1, 0, cross, 1, 2, 1, 2, 2, 99, 2, 1, 1, 2, 1, 2);
        int[] ends = {1, 1, 1, 1, 2, 2, 2, 2, 1, 1, 1, 1};
        filledFrom(3, 0, 0, ends, 99, 99, 99, 99, 2, 2, 2, 2, 1, 1, 1, 1);
        int[] wide = {-32768, 32767, -32768, 32767};
        filledFrom(0, 0, 65534, wide, 99, 32767, -32768, 32767);
        filledFrom(0, 0, 65535, wide, alike(4, 99));
        filledFrom(1, 0, 65534, wide, -32768, 99, -32768, 32767);
        filledFrom(1, 0, 65535, wide, alike(4, 99));
        for (int w = 1; w <= 2; w++) {
            for (int first = 0; first < 2; first++) {
                lay(0, BYTES, w, 5, 5);
                due("to the one neighbour", room.fill(0, w == 2 ? first : 0, w == 1 ? first : 0, 0, 9), 2);
                duePicture("to the one neighbour", 0, BYTES, w, 9, 9);
            }
        }
        room = new DarkRoom();
        room.picture(0, BYTES, 16, 16);
        due("all of the greatest size", room.fill(0, 15, 15, 0, 255), 256);
        due("all of the greatest size", room.about(0, 3), 255);
        due("v as it is", room.fill(0, 0, 0, 0, 255), 256);
        due("v as it is", room.about(0, 5), 255 * 256);
    }

    private void fill() {
        says(18, "A PICTURE is FILLED: how many PIXELS became v.");
        room.picture(7, BYTES, 1, 1);
        due("the greatest BYTE", room.fill(7, 0, 0, 0, 255), 1);
        due("the greatest BYTE", room.at(7, 0, 0, HELD), 255);
        due("the least BYTE", room.fill(7, 0, 0, 0, 0), 1);
        due("the least BYTE", room.at(7, 0, 0, HELD), 0);
        room.picture(0, SHORTS, 2, 1);
        due("the least SHORT", room.fill(0, 1, 0, 0, -32768), 2);
        duePicture("the least SHORT", 0, SHORTS, 2, -32768, -32768);
        due("the greatest SHORT", room.fill(0, 0, 0, 0, 32767), 2);
        duePicture("the greatest SHORT", 0, SHORTS, 2, 32767, 32767);

        says(18, "BAD: also t below 0; NO: it is MISSING, x, y is beyond, v is none of its KIND.");
        refused(BAD, "fill", FILL, numbers(0, 0, 0, -1, 0), numbers(0, 0, 0, MIN, 0), numbers(-1, 0, 0, 0, 0),
                numbers(8, 0, 0, 0, 0), numbers(MIN, 0, 0, 0, 0), numbers(MAX, 0, 0, 0, 0));
        refused(BAD, "BAD is ahead of NO: fill", FILL, numbers(6, 0, 0, -1, 0), numbers(0, 3, 0, -1, 0),
                numbers(0, 0, 0, -1, 256), numbers(8, -1, -1, 0, 256));
        refused(NO, "fill", FILL, numbers(6, 0, 0, 0, 0), numbers(7, 0, 0, 0, 0), numbers(0, 3, 0, 0, 0),
                numbers(0, 0, 2, 0, 0), numbers(0, -1, 0, 0, 0), numbers(0, 0, -1, 0, 0), numbers(0, MAX, 0, 0, 0),
                numbers(0, 0, MIN, 0, 0), numbers(0, 0, 0, 0, -1), numbers(0, 2, 1, 0, 256), numbers(0, 0, 0, 0, MAX),
                numbers(1, 0, 0, 0, -32769), numbers(1, 1, 1, 0, 32768), numbers(4, 16, 15, 0, 0),
                numbers(4, 15, 16, 0, 0));
    }

    private void ditherLevels() {
        says(19, "DITHERED with n LEVELS (2 to 16) is a PICTURE of BYTES:");
        for (int n = 2; n <= 16; n++) {
            for (int v = 0; v < 256; v++) {
                if (v % 128 == 0) {
                    room = new DarkRoom();
                }
                int k = 0;
                for (int other = 1; other < n; other++) {
                    k = Math.abs(v * (n - 1) - 255 * other) < Math.abs(v * (n - 1) - 255 * k) ? other : k;
                }
                lay(0, BYTES, 1, v);
                due(v + " with " + n, room.dither(0, n), 255 * k / (n - 1) == v ? 0 : 1);
                due(v + " with " + n, room.at(0, 0, 0, HELD), 255 * k / (n - 1));
            }
        }
        says(19, "k is the nearest whole to v (n - 1) / 255 (a half goes up), from 0 to n - 1; the PIXEL becomes "
                + "255 k / (n - 1), cut; the ERROR e is v less that;");
        dithered(2, 1, new int[] {127}, 0);
        dithered(2, 1, new int[] {128}, 255);
        dithered(3, 1, new int[] {63}, 0);
        dithered(3, 1, new int[] {64}, 127);
        dithered(3, 1, new int[] {191}, 127);
        dithered(3, 1, new int[] {192}, 255);
        // All four ahead of the fifth carry what 64 leaves, so it is 319, which is nearest to 3 of the LEVELS 0 to 2.
        dithered(3, 3, new int[] {191, 163, 163, 159, 255, 12}, 127, 127, 127, 127, 255, 127);
        dithered(3, 3, new int[] {191, 163, 163, 159, 255, 11}, 127, 127, 127, 127, 255, 0);
        // -41 and three times -42 carry -43 to the fifth, which is nearest to -1 of the LEVELS 0 to 3, and go on as -43.
        dithered(4, 3, new int[] {44, 60, 61, 62, 0, 77}, 85, 85, 85, 85, 0, 0);
        dithered(4, 3, new int[] {44, 60, 61, 62, 0, 78}, 85, 85, 85, 85, 0, 85);
        // All three ahead of the fourth carry what -127 leaves, so it is -104.
        dithered(2, 2, new int[] {128, 183, 190, 0}, 255, 255, 255, 0);
    }

    private void dithered(int n, int w, int[] from, int... to) {
        room = new DarkRoom();
        lay(0, BYTES, w, from);
        String call = java.util.Arrays.toString(from) + " with " + n;
        due(call, room.dither(0, n), changes(from, to));
        duePicture(call, 0, BYTES, w, to);
    }

    /** With two LEVELS 127 leaves 127 and 128 leaves -127; a PIXEL that becomes 128 by what is carried becomes 255. */
    private void ditherCarries() {
        says(19, "row by row, from the left: v is the PIXEL with what was carried to it;");
        dithered(2, 3, new int[] {127, 72, 72}, 0, 0, 0);
        dithered(2, 3, new int[] {127, 72, 73}, 0, 0, 255);
        dithered(2, 1, new int[] {127, 0, 115}, 0, 0, 0);
        dithered(2, 1, new int[] {127, 0, 116}, 0, 0, 255);
        says(19, "7 e / 16 are carried to the right, 3 e / 16 beneath to the left, 5 e / 16 beneath, what is left of e "
                + "beneath to the right (each cut towards 0; what would come beyond the PICTURE is lost).");
        // 55 to the right, 23 beneath to the left, 39 beneath, 10 are left.
        dithered(2, 2, new int[] {127, 72}, 0, 0);
        dithered(2, 2, new int[] {127, 73}, 0, 255);
        dithered(2, 2, new int[] {128, 182}, 255, 0);
        dithered(2, 2, new int[] {128, 183}, 255, 255);
        dithered(2, 1, new int[] {127, 88}, 0, 0);
        dithered(2, 1, new int[] {127, 89}, 0, 255);
        dithered(2, 1, new int[] {128, 166}, 255, 0);
        dithered(2, 1, new int[] {128, 167}, 255, 255);
        dithered(2, 2, new int[] {0, 127, 104, 0}, 0, 0, 0, 0);
        dithered(2, 2, new int[] {0, 127, 105, 255}, 0, 0, 255, 255);
        dithered(2, 2, new int[] {255, 128, 150, 0}, 255, 255, 0, 0);
        dithered(2, 2, new int[] {255, 128, 151, 255}, 255, 255, 255, 255);
        // 200 and 55 are whole by what comes from the left, so that nothing but what is left comes to the fourth.
        dithered(2, 2, new int[] {127, 200, 216, 117}, 0, 255, 255, 0);
        dithered(2, 2, new int[] {127, 200, 216, 118}, 0, 255, 255, 255);
        dithered(2, 2, new int[] {128, 55, 39, 137}, 255, 0, 0, 0);
        dithered(2, 2, new int[] {128, 55, 39, 138}, 255, 0, 0, 255);
        // What goes beyond the right side does not come in on the left, one or two rows beneath, nor the other way.
        dithered(2, 2, new int[] {0, 127, 104, 104}, 0, 0, 0, 255);
        dithered(2, 2, new int[] {0, 127, 232, 216, 118, 0}, 0, 0, 255, 255, 0, 0);
        dithered(2, 3, new int[] {127, 200, 127}, 0, 255, 0);
        dithered(2, 2, new int[] {0, 0, 0, 127, 127, 0}, 0, 0, 0, 0, 255, 0);
    }

    private void dither() {
        says(19, "A PICTURE is DITHERED: how many PIXELS changed. BAD; NO: it is not one of BYTES.");
        room.picture(7, BYTES, 16, 16);
        due("none", room.dither(7, 2), 0);
        lay(7, BYTES, 16, alike(256, 1));
        due("all of the greatest size", room.dither(7, 16), 256 - ones(7));
        lay(7, BYTES, 2, 127, 72, 60, 60);
        due("nothing is carried from one PICTURE to the next", room.dither(7, 2), 4);
        lay(6, BYTES, 2, 0, 127, 104, 127);
        due("nothing is carried from one PICTURE to the next", room.dither(6, 2), 3);
        duePicture("nothing is carried from one PICTURE to the next", 6, BYTES, 2, 0, 0, 0, 255);
        refused(BAD, "dither", DITHER, numbers(0, 1), numbers(0, 17), numbers(0, 0), numbers(0, -1), numbers(0, MIN),
                numbers(0, MAX), numbers(-1, 2), numbers(8, 2));
        refused(BAD, "BAD is ahead of NO: dither", DITHER, numbers(1, 1), numbers(1, 17), numbers(6, 1), numbers(6, 17));
        refused(NO, "dither", DITHER, numbers(1, 2), numbers(1, 16), numbers(5, 2), numbers(6, 2), numbers(7, 16));
    }

    private int ones(int p) {
        room.maskOf(0, p, 1, 1);
        return room.maskBy(0, 0, 4);
    }

    private void evened(int w, int[] from, int... to) {
        room = new DarkRoom();
        lay(0, BYTES, w, from);
        due(java.util.Arrays.toString(from), room.even(0), changes(from, to));
        duePicture(java.util.Arrays.toString(from), 0, BYTES, w, to);
    }

    private void even() {
        says(20, "MADE EVEN is a PICTURE of BYTES: of its N PIXELS c(v) is how many are at most v, c0 is c of its least "
                + "one; each v becomes (c(v) - c0) 255 / (N - c0), rounded to the nearest (a half goes up);");
        evened(2, new int[] {0, 255}, 0, 255);
        evened(2, new int[] {7, 6}, 255, 0);
        evened(3, new int[] {254, 255, 253}, 128, 255, 0);
        evened(4, new int[] {9, 1, 5, 1}, 255, 0, 128, 0);
        evened(4, new int[] {1, 2, 3, 4, 5, 6, 7, 8}, 0, 36, 73, 109, 146, 182, 219, 255);
        evened(4, new int[] {3, 3, 3, 0}, 255, 255, 255, 0);
        evened(4, new int[] {3, 0, 0, 0}, 255, 0, 0, 0);
        evened(16, rising(256, 0, 1), rising(256, 0, 1));
        evened(16, rising(256, 255, -1), rising(256, 255, -1));
        int[] last = alike(256, 8);
        last[255] = 9;
        int[] lastEvened = alike(256, 0);
        lastEvened[255] = 255;
        evened(16, last, lastEvened);
        says(20, "a PICTURE with one v alone stays.");
        evened(1, new int[] {0}, 0);
        evened(1, new int[] {255}, 255);
        evened(2, new int[] {77, 77}, 77, 77);
        evened(16, alike(256, 3), alike(256, 3));

        says(20, "A PICTURE is MADE EVEN: how many PIXELS changed. BAD; NO: it is not one of BYTES.");
        lay(7, BYTES, 3, 0, 3, 255);
        due("one of three", room.even(7), 1);
        duePicture("one of three", 7, BYTES, 3, 0, 128, 255);
        due("none", room.even(7), 0);
        refused(BAD, "even", EVEN, numbers(-1), numbers(8), numbers(MIN), numbers(MAX));
        refused(NO, "even", EVEN, numbers(1), numbers(4), numbers(5), numbers(6), numbers(7));
    }

    private void energy() {
        says(21, "THE ENERGY of a PIXEL: the difference of its neighbours beside, and of those above and beneath (both 0 or "
                + "above), together, by HELD.");
        lay(0, BYTES, 3, 10, 20, 35, 40, 50, 60, 90, 0, 1);
        int[] want = {10 + 30, 25 + 30, 15 + 25, 10 + 80, 20 + 20, 10 + 34, 90 + 50, 89 + 50, 1 + 59};
        for (int i = 0; i < 9; i++) {
            due("at " + i, room.energy(0, i % 3, i / 3), want[i]);
        }
        lay(1, SHORTS, 2, -32768, 32767, 32767, -32768);
        due("the greatest", room.energy(1, 0, 0), 131070);
        due("the greatest", room.energy(1, 1, 1), 131070);
        lay(2, BYTES, 1, 8);
        due("one PIXEL", room.energy(2, 0, 0), 0);
        lay(2, BYTES, 1, 8, 200, 5);
        due("one wide", room.energy(2, 0, 0), 192);
        due("one wide", room.energy(2, 0, 1), 3);
        due("one wide", room.energy(2, 0, 2), 195);
        lay(2, BYTES, 3, 8, 200, 5);
        due("one high", room.energy(2, 0, 0), 192);
        due("one high", room.energy(2, 1, 0), 3);
        due("one high", room.energy(2, 2, 0), 195);
        room.picture(7, SHORTS, 16, 16);
        room.put(7, 14, 15, -9);
        due("the last PIXEL", room.energy(7, 15, 15), 9);
        due("the one beside it", room.energy(7, 14, 15), 9);

        says(21, "The ENERGY of PIXEL x, y. BAD; NO: MISSING, beyond.");
        refused(BAD, "energy", ENERGY, numbers(-1, 0, 0), numbers(8, 0, 0), numbers(MIN, -1, -1), numbers(8, 3, 0));
        refused(NO, "energy", ENERGY, numbers(6, 0, 0), numbers(7, 0, 0), numbers(0, 3, 0), numbers(0, 0, 2),
                numbers(0, -1, 0), numbers(0, 0, -1), numbers(0, MIN, 0), numbers(0, 0, MAX), numbers(4, 16, 0),
                numbers(4, 0, 16));
        // 11 is held for the left neighbour and for the one above.
        noAct(20 - 11 + 40 - 11, "energy", ENERGY, 0, 0, 0);
    }

    private void dueSeam(String call, int energy, int... columns) {
        due(call + ": its ENERGY", room.seam(0, -1), energy);
        for (int y = 0; y < columns.length; y++) {
            due(call + ": row " + y, room.seam(0, y), columns[y]);
        }
        due(call + ": one row too far", room.seam(0, columns.length), NO);
        due(call + ": below -1", room.seam(0, -2), BAD);
    }

    private void seam() {
        says(22, "The x of THE SEAM in row y; y = -1: its ENERGY.");
        lay(0, BYTES, 1, 5);
        dueSeam("one PIXEL", 0, 0);
        lay(0, BYTES, 3, 0, 9, 9);
        dueSeam("one row", 0, 2);
        lay(0, BYTES, 1, 1, 9, 2, 200);
        dueSeam("one wide", 8 + 1 + 191 + 198, 0, 0, 0, 0);
        room = new DarkRoom();
        room.picture(0, SHORTS, 16, 16);
        dueSeam("the greatest size", 0, new int[16]);
        int[] board = new int[256];
        for (int i = 0; i < 256; i++) {
            board[i] = (i / 16 + i % 16) % 2 == 0 ? -32768 : 32767;
        }
        lay(0, SHORTS, 16, board);
        // Within a board of extremes both neighbours beside, and both above and beneath, are alike.
        due("a board: the first and last rows hold one of them", room.seam(0, -1), 2 * 65535);
        int[] rows = new int[32];
        for (int y = 0; y < 16; y++) {
            rows[2 * y] = y % 2 == 0 ? -32768 : 32767;
            rows[2 * y + 1] = y % 2 == 0 ? 32767 : -32768;
        }
        lay(0, SHORTS, 2, rows);
        dueSeam("the greatest ENERGY of two columns", 2 * 131070 + 14 * 65535, new int[16]);

        says(22, "BAD: also y below -1; NO: MISSING, beyond.");
        refused(BAD, "seam", SEAM, numbers(0, -2), numbers(0, MIN), numbers(-1, 0), numbers(8, 0), numbers(8, -1));
        refused(BAD, "BAD is ahead of NO: seam", SEAM, numbers(6, -2), numbers(8, 16));
        refused(NO, "seam", SEAM, numbers(6, 0), numbers(6, -1), numbers(7, 99), numbers(0, 2), numbers(0, MAX),
                numbers(4, 16), numbers(5, 1));
        noAct(0, "seam", SEAM, 5, 0);
        noAct(0, "seam", SEAM, 5, -1);
        noAct(0, "seam", SEAM, 4, 1);
    }

    private void seamTies() {
        says(22, "A SEAM has one PIXEL in each row, those next to one another at most one x apart;");
        lay(0, BYTES, 5, 7, 7, 0, 9, 0, 7, 7, 0, 9, 0);
        int[] row = {0, 7, 2, 0, 9};
        for (int x = 0; x < 5; x++) {
            due("ENERGY at " + x, room.energy(0, x, 0), row[x]);
            due("ENERGY at " + x, room.energy(0, x, 1), row[x]);
        }
        dueSeam("straight", 0, 0, 0);
        // ENERGY 0, 180, 90 above and 90, 180, 0 beneath: it would be 0 if 0 and 2 could stand together.
        lay(0, BYTES, 3, 90, 90, 0, 90, 0, 0);
        dueSeam("two apart can't be", 90, 0, 0);
        // ENERGY 155, 105, 95 above and 70, 85, 160 beneath: it would be 165 if 2 and 0 could stand together.
        lay(0, BYTES, 3, 90, 5, 0, 20, 20, 90);
        dueSeam("one apart can be", 175, 1, 0);

        says(22, "THE SEAM has the least ENERGY together; of these the one whose x in the last row is least, then in the "
                + "one above, and so on up.");
        lay(0, BYTES, 6, alike(12, 4));
        dueSeam("all alike", 0, 0, 0);
        lay(0, BYTES, 4, 9, 0, 5, 0, 9, 0, 5, 0, 9, 0, 5, 0);
        dueLeastOfAll("many alike", 4, 3);
        java.util.Random random = new java.util.Random(22);
        for (int round = 0; round < 300; round++) {
            int w = 1 + random.nextInt(5);
            int h = 1 + random.nextInt(5);
            int[] pixels = new int[w * h];
            for (int i = 0; i < pixels.length; i++) {
                pixels[i] = random.nextInt(2 + round % 4) * (round % 2 == 0 ? 1 : 60);
            }
            room = new DarkRoom();
            lay(0, BYTES, w, pixels);
            dueLeastOfAll("round " + round, w, h);
        }
    }

    /** Every SEAM is tried, from the least x of the last row on, so that the first of the least ENERGY is THE SEAM. */
    private void dueLeastOfAll(String call, int w, int h) {
        int[] energies = new int[w * h];
        for (int i = 0; i < w * h; i++) {
            energies[i] = room.energy(0, i % w, i / w);
        }
        int least = MAX;
        int[] best = new int[h];
        for (int way = 0; way < Math.pow(w, h); way++) {
            int[] columns = new int[h];
            int rest = way;
            int sum = 0;
            boolean stands = true;
            for (int y = 0; y < h; y++) {
                // The last row is the highest digit of the way.
                columns[y] = rest % w;
                rest /= w;
                sum += energies[y * w + columns[y]];
                stands &= y == 0 || Math.abs(columns[y] - columns[y - 1]) <= 1;
            }
            if (stands && sum < least) {
                least = sum;
                best = columns;
            }
        }
        dueSeam(call, least, best);
    }

    private void seamGoes() {
        says(23, "THE SEAM goes from a PICTURE (how = 0), or is doubled (1: each of its PIXELS stands twice): the WIDTH "
                + "then.");
        lay(0, BYTES, 3, 10, 20, 30, 40, 50, 60);
        dueSeam("on the left", 80, 0, 0);
        due("goes on the left", room.seamGoes(0, 0), 2);
        duePicture("goes on the left", 0, BYTES, 2, 20, 30, 50, 60);
        lay(0, BYTES, 3, 10, 20, 30, 40, 50, 60);
        due("doubled on the left", room.seamGoes(0, 1), 4);
        duePicture("doubled on the left", 0, BYTES, 4, 10, 10, 20, 30, 40, 40, 50, 60);
        lay(0, SHORTS, 3, -1, 8, 9, -1, 8, 9);
        dueSeam("on the right", 2, 2, 2);
        due("goes on the right", room.seamGoes(0, 0), 2);
        duePicture("goes on the right", 0, SHORTS, 2, -1, 8, -1, 8);
        lay(0, SHORTS, 3, -1, 8, 9, -1, 8, 9);
        due("doubled on the right", room.seamGoes(0, 1), 4);
        duePicture("doubled on the right", 0, SHORTS, 4, -1, 8, 9, 9, -1, 8, 9, 9);
        lay(0, BYTES, 2, 0, 1, 2, 3, 4, 5, 6, 7, 8, 9);
        due("higher than wide", room.seamGoes(0, 0), 1);
        duePicture("higher than wide", 0, BYTES, 1, 1, 3, 5, 7, 9);
        lay(0, BYTES, 3, 1, 5, 5);
        lay(1, BYTES, 3, 5, 5, 1);
        due("traced in the other one", room.seam(0, 0), 2);
        due("doubled", room.seamGoes(1, 1), 4);
        duePicture("doubled", 1, BYTES, 4, 5, 5, 5, 1);
        due("traced in the other one", room.seam(1, 0), 0);
        due("goes", room.seamGoes(0, 0), 2);
        duePicture("goes", 0, BYTES, 2, 1, 5);
        aslant();

        says(23, "BAD; NO: MISSING; the WIDTH would be 0 or 17.");
        for (int h = 1; h <= 16; h += 15) {
            room.picture(0, BYTES, 2, h);
            due("2 to 1", room.seamGoes(0, 0), 1);
            due("1 to 0", room.seamGoes(0, 0), NO);
            due("is 1", room.about(0, 1), 1);
            due("1 to 2", room.seamGoes(0, 1), 2);
            room.picture(0, SHORTS, 15, h);
            due("15 to 16", room.seamGoes(0, 1), 16);
            due("16 to 17", room.seamGoes(0, 1), NO);
            due("is 16", room.about(0, 1), 16);
            due("16 to 15", room.seamGoes(0, 0), 15);
            due("its HEIGHT stays", room.about(0, 2), h);
        }
        refused(BAD, "seamGoes", SEAM_GOES, numbers(0, -1), numbers(0, 2), numbers(0, MIN), numbers(0, MAX),
                numbers(-1, 0), numbers(8, 1));
        refused(BAD, "BAD is ahead of NO: seamGoes", SEAM_GOES, numbers(6, 2), numbers(3, -1), numbers(2, 2));
        refused(NO, "seamGoes", SEAM_GOES, numbers(6, 0), numbers(7, 1), numbers(3, 0), numbers(5, 0), numbers(2, 1),
                numbers(4, 1));
    }

    /** Where THE SEAM is not straight, another x goes, or stands twice, in each row. */
    private void aslant() {
        slanted(numbers(3, 2, 1, 0), 9, 90, 0, 0, 90, 9, 50, 0, 9, 90, 0, 90, 50, 9, 90, 0);
        slanted(numbers(2, 3, 3, 2), 90, 0, 50, 9, 0, 90, 9, 0, 0, 90, 50, 0, 90, 9, 50, 0);
        slanted(numbers(0, 1, 2, 3), 90, 90, 90, 0, 50, 50, 90, 9, 90, 90, 9, 90, 0, 9, 90, 90);
        slanted(numbers(0, 1, 2, 1), 9, 0, 90, 9, 0, 50, 9, 0, 50, 0, 9, 9, 90, 0, 0, 90);
    }

    private void slanted(int[] columns, int... pixels) {
        for (int how = 0; how <= 1; how++) {
            room = new DarkRoom();
            lay(0, BYTES, 4, pixels);
            for (int y = 0; y < 4; y++) {
                due("row " + y, room.seam(0, y), columns[y]);
            }
            int[] want = new int[how == 0 ? 12 : 20];
            int next = 0;
            for (int i = 0; i < 16; i++) {
                for (int times = columns[i / 4] == i % 4 ? 2 * how : 1; times > 0; times--) {
                    want[next++] = pixels[i];
                }
            }
            due("aslant", room.seamGoes(0, how), want.length / 4);
            duePicture("aslant", 0, BYTES, want.length / 4, want);
        }
    }

    private void dueRuns(String call, int p, int... bytes) {
        due(call + ": how many", room.runs(p, -1), bytes.length);
        for (int i = 0; i < bytes.length; i++) {
            due(call + ": byte " + i, room.runs(p, i), bytes[i]);
        }
        due(call + ": just behind", room.runs(p, bytes.length), NONE);
        due(call + ": one further", room.runs(p, bytes.length + 1), NONE);
        due(call + ": far behind", room.runs(p, MAX), NONE);
        due(call + ": below -1", room.runs(p, -2), BAD);
    }

    private void runs() {
        says(24, "RUNS of a PICTURE, row by row: bytes: its KIND, w, h; then for each greatest run of like PIXELS (over the "
                + "ends of rows, too; 255 at most) how many, and the PIXEL (a SHORT: its high byte, its low one).");
        lay(0, BYTES, 1, 255);
        dueRuns("one BYTE", 0, 0, 1, 1, 1, 255);
        lay(0, SHORTS, 1, -32768);
        dueRuns("the least SHORT", 0, 1, 1, 1, 1, 128, 0);
        lay(0, SHORTS, 1, 32767);
        dueRuns("the greatest SHORT", 0, 1, 1, 1, 1, 127, 255);
        lay(0, SHORTS, 3, -1, 255, 256);
        dueRuns("SHORTS", 0, 1, 3, 1, 1, 255, 255, 1, 0, 255, 1, 1, 0);
        lay(0, BYTES, 3, 1, 2, 2, 2, 2, 1);
        dueRuns("over the ends of rows", 0, 0, 3, 2, 1, 1, 4, 2, 1, 1);
        lay(0, BYTES, 15, alike(240, 6));
        dueRuns("240", 0, 0, 15, 16, 240, 6);
        int[] pixels = alike(256, 5);
        lay(0, BYTES, 16, pixels);
        dueRuns("256 are 255 and 1", 0, 0, 16, 16, 255, 5, 1, 5);
        pixels[255] = 4;
        lay(0, BYTES, 16, pixels);
        dueRuns("255, then another", 0, 0, 16, 16, 255, 5, 1, 4);
        pixels[254] = 4;
        lay(0, BYTES, 16, pixels);
        dueRuns("254, then another", 0, 0, 16, 16, 254, 5, 2, 4);
        pixels[255] = 5;
        pixels[254] = 5;
        pixels[0] = 4;
        lay(0, BYTES, 16, pixels);
        dueRuns("another, then 255", 0, 0, 16, 16, 1, 4, 255, 5);
        lay(0, SHORTS, 16, alike(256, -2));
        dueRuns("256 SHORTS", 0, 1, 16, 16, 255, 255, 254, 1, 255, 254);
    }

    private void runBytes() {
        says(24, "How many bytes the RUNS of a PICTURE have; byte i of these (i from 0 on; NONE behind them), if i is not "
                + "-1. BAD; NO: MISSING.");
        lay(7, BYTES, 16, rising(256, 0, 1));
        due("the most of BYTES", room.runs(7, -1), 515);
        due("the last run", room.runs(7, 513), 1);
        due("the last byte", room.runs(7, 514), 255);
        due("behind it", room.runs(7, 515), NONE);
        lay(7, SHORTS, 16, rising(256, -128, 1));
        due("the most of SHORTS", room.runs(7, -1), 771);
        due("the last run", room.runs(7, 768), 1);
        due("the last high byte", room.runs(7, 769), 0);
        due("the last byte", room.runs(7, 770), 127);
        due("behind it", room.runs(7, 771), NONE);
        refused(BAD, "runs", RUNS, numbers(0, -2), numbers(0, MIN), numbers(-1, -1), numbers(8, -1), numbers(8, 0));
        refused(BAD, "BAD is ahead of NO: runs", RUNS, numbers(6, -2), numbers(8, 99));
        refused(NO, "runs", RUNS, numbers(6, -1), numbers(6, 0), numbers(7, MAX));
        noAct(15, "runs", RUNS, 0, -1);
        noAct(NONE, "runs", RUNS, 0, 15);
    }

    private void tell(DarkRoom to, int... bytes) {
        for (int v : bytes) {
            to.byteTo(v);
        }
    }

    private void dueRead(int q, int[] tape, int kind, int w, int... pixels) {
        room = new DarkRoom();
        tell(room, tape);
        String call = java.util.Arrays.toString(tape);
        due(call + ": bytes", room.count(4), tape.length);
        due(call, room.read(q), pixels.length);
        due(call + ": empty then", room.count(4), 0);
        due(call + ": an act", room.count(2), 1);
        duePicture(call, q, kind, w, pixels);
        due(call + ": nothing is left to read", room.read(q), -1);
    }

    private void read() {
        says(25, "PICTURE q becomes what RUNS tell: THE TAPE, to which byteTo() adds, is read (and empty then): how many "
                + "PIXELS. BAD.");
        dueRead(0, numbers(0, 1, 1, 1, 255), BYTES, 1, 255);
        dueRead(7, numbers(1, 1, 1, 1, 128, 0), SHORTS, 1, -32768);
        dueRead(7, numbers(1, 1, 2, 1, 127, 255, 1, 0, 200), SHORTS, 1, 32767, 200);
        dueRead(3, numbers(1, 2, 1, 2, 255, 255), SHORTS, 2, -1, -1);
        dueRead(0, numbers(0, 3, 2, 1, 1, 4, 2, 1, 1), BYTES, 3, 1, 2, 2, 2, 2, 1);
        dueRead(0, numbers(0, 2, 1, 1, 6, 1, 6), BYTES, 2, 6, 6);
        dueRead(0, numbers(0, 16, 1, 16, 0), BYTES, 16, new int[16]);
        dueRead(0, numbers(0, 1, 16, 16, 9), BYTES, 1, alike(16, 9));
        dueRead(0, numbers(0, 16, 16, 255, 5, 1, 5), BYTES, 16, alike(256, 5));
        dueRead(0, numbers(1, 16, 16, 1, 255, 254, 255, 255, 254), SHORTS, 16, alike(256, -2));
        dueRead(0, numbers(0, 15, 16, 240, 7), BYTES, 15, alike(240, 7));
        refused(BAD, "read", READ, numbers(-1), numbers(8), numbers(MIN), numbers(MAX));
        room = new DarkRoom();
        tell(room, 0, 1, 1, 1, 3);
        due("BAD", room.read(8), BAD);
        due("THE TAPE stays", room.count(4), 5);
        due("and can be read", room.read(0), 1);
    }

    private void dueFault(int place, int... tape) {
        room = new DarkRoom();
        tell(room, tape);
        due(java.util.Arrays.toString(tape), room.read(0), -1 - place);
        due(java.util.Arrays.toString(tape) + ": empty then", room.count(4), 0);
        due(java.util.Arrays.toString(tape) + ": no PICTURE", room.about(0, 0), NONE);
        due(java.util.Arrays.toString(tape) + ": no act", room.count(2), 0);
    }

    private void readFaults() {
        says(25, "-1 and less: -1 less the place of the first byte that can't stand there (a KIND, size, a run of 0 or "
                + "beyond the PICTURE; behind it: one too many; the end: how many there are).");
        int[][] kinds = {{2}, {255}, {2, 1, 1, 1, 1}};
        for (int[] tape : kinds) {
            dueFault(0, tape);
        }
        for (int kind = BYTES; kind <= SHORTS; kind++) {
            dueFault(1, kind, 0, 1, 1, 1);
            dueFault(1, kind, 17, 1, 1, 1);
            dueFault(1, kind, 255, 255, 0);
            dueFault(2, kind, 1, 0, 1, 1);
            dueFault(2, kind, 16, 17, 1, 1);
            dueFault(2, kind, 1, 255);
            dueFault(3, kind, 16, 16, 0, 9, 9);
            dueFault(3, kind, 2, 2, 5, 9, 9);
            dueFault(3, kind, 1, 1, 2, 9, 9);
            dueFault(3, kind, 15, 16, 241, 9, 9);
        }
        dueFault(5, 0, 2, 2, 3, 9, 2, 9);
        dueFault(5, 0, 2, 2, 3, 9, 0, 9);
        dueFault(6, 1, 2, 2, 3, 9, 9, 2, 9, 9);
        dueFault(6, 1, 2, 2, 3, 9, 9, 0, 9, 9);
        dueFault(5, 0, 16, 16, 255, 9, 2, 9);
        dueFault(5, 0, 2, 2, 4, 9, 1);
        dueFault(5, 0, 2, 2, 4, 9, 0, 0, 0);
        dueFault(7, 0, 2, 2, 3, 9, 1, 9, 255);
        dueFault(6, 1, 2, 2, 4, 9, 9, 1);
        int[] whole = {1, 2, 2, 3, 9, 9, 1, 8, 8};
        for (int many = 0; many < whole.length; many++) {
            dueFault(many, java.util.Arrays.copyOf(whole, many));
        }
        int[] bytes = {0, 2, 2, 3, 9, 1, 8};
        for (int many = 0; many < bytes.length; many++) {
            dueFault(many, java.util.Arrays.copyOf(bytes, many));
        }
        // The same bytes on top of an earlier TAPE that had more: what was there before does not stand behind the end.
        for (int many = 0; many < whole.length; many++) {
            room = new DarkRoom();
            tell(room, whole);
            room.read(1);
            tell(room, java.util.Arrays.copyOf(whole, many));
            due("the end at " + many, room.read(0), -1 - many);
        }
    }

    private void readFaultsChangeNothing() {
        Scene scene = Scene.furnished();
        int[][] tapes = {{}, {2}, {0, 17}, {0, 3, 0}, {1, 1, 1, 0}, {0, 3, 2, 7}, {0, 3, 2, 6, 1, 1}, {0, 3, 2, 5, 1},
            {1, 16, 16, 255, 1, 1}};
        for (int[] tape : tapes) {
            for (int q = 0; q < 8; q += 6) {
                int to = q;
                dueLike("PICTURE " + q + " and " + java.util.Arrays.toString(tape), scene, scene.then(r -> {
                    tell(r, tape);
                    r.read(to);
                }), Sight.PARTS);
            }
        }
    }

    private void byteTo() {
        says(26, "A byte (0 to 255) behind THE TAPE: how many it has. BAD; FULL: 800.");
        due("0", room.byteTo(0), 1);
        due("255", room.byteTo(255), 2);
        due("two", room.count(4), 2);
        refused(BAD, "byteTo", BYTE_TO, numbers(-1), numbers(256), numbers(MIN), numbers(MAX));
        // An object is used for 512 calls at most, so these answers are free; they are held to 800 all the same.
        for (int many = 3; many <= 800; many++) {
            due("more", room.byteTo(many % 256), many);
        }
        due("801", room.byteTo(0), FULL);
        due("BAD is ahead of FULL", room.byteTo(256), BAD);
        due("BAD is ahead of FULL", room.byteTo(-1), BAD);
        due("800", room.count(4), 800);
        due("no act", room.count(2), 0);
        due("all are read, and the second is no WIDTH", room.read(0), -2);
        due("empty then", room.count(4), 0);
        due("the first again", room.byteTo(1), 1);
    }
}
