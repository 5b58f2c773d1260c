/** The bounds of the promises 11 to 17: filters, masks. */
final class BoundsOfFilters extends Bounds {
    private static final int ADD = 0, TURN = 1, STEP = 2, TIMES = 3, SQUARE = 4, RANK = 5, THEN = 6, WHERE = 7, BOTH = 8;
    private static final Call FILTER = (r, a) -> r.filter(a[0], a[1], a[2]);
    private static final Call WEIGHT = (r, a) -> r.weight(a[0], a[1], a[2]);
    private static final Call APPLY = (r, a) -> r.apply(a[0], a[1], a[2]);
    private static final Call MASK = (r, a) -> r.mask(a[0], a[1], a[2], a[3] == 1);
    private static final Call MASK_OF = (r, a) -> r.maskOf(a[0], a[1], a[2], a[3]);
    private static final Call MASK_BY = (r, a) -> r.maskBy(a[0], a[1], a[2]);
    private static final Call IS_ON = (r, a) -> r.isOn(a[0], a[1], a[2]);

    BoundsOfFilters(Check check, Document document) {
        super(check, document);
    }

    void all() {
        filterCount();
        filterNumbers();
        filterParts();
        filterHigh();
        weight();
        applyEach();
        applyTimes();
        applySquare();
        applyRank();
        applyTogether();
        apply();
        mask();
        maskOf();
        maskBy();
        maskGrown();
        maskShrunk();
        isOn();
    }

    private static Scene fullOfFilters() {
        return new Scene(room -> {
            room.picture(0, SHORTS, 2, 2);
            room.filter(SQUARE, 2, 0);
            room.weight(0, 8, -1000);
            room.filter(THEN, 0, 0);
            room.filter(BOTH, 1, 0);
            room.filter(WHERE, 5, 2);
            for (int f = 4; f < 24; f++) {
                room.filter(ADD, f, 0);
            }
        });
    }

    private void filterCount() {
        says(11, "FILTERS 0, 1, .. as they come, 24 at most,");
        for (int f = 0; f < 24; f++) {
            due("so many", room.count(0), f);
            due("not there yet", room.weight(f, 0, 0), BAD);
            due("its number", room.filter(f == 23 ? ADD : f % 6, 1, 1), f);
        }
        due("24", room.count(0), 24);
        due("a 25th", room.filter(ADD, 0, 0), FULL);
        due("24", room.count(0), 24);
        room.picture(0, BYTES, 1, 1);
        due("the last one works", room.apply(0, 23, HELD), 1);
        due("there is no FILTER 24", room.apply(0, 24, HELD), BAD);

        says(11, "BAD: also what leads to one that is HIGHER than 4. FULL.");
        Scene full = fullOfFilters();
        int[][] told = {{ADD, 0, 0}, {TURN, 0, 0}, {STEP, 0, 0}, {TIMES, 1, 1}, {SQUARE, 1, 0}, {RANK, 0, 0},
            {THEN, 23, 0}, {WHERE, 0, 23}, {BOTH, 2, 2}};
        for (int[] one : told) {
            refusedIn(full, FULL, "filter", FILTER, one);
        }
        int[][] wrong = {{-1, 0, 0}, {9, 0, 0}, {ADD, 100001, 0}, {TIMES, 0, 0}, {SQUARE, 0, 0}, {RANK, 9, 0},
            {THEN, 24, 0}, {THEN, 3, 0}, {WHERE, 6, 0}, {WHERE, 0, 3}, {BOTH, 0, 3}, {BOTH, -1, 0}};
        for (int[] one : wrong) {
            refusedIn(full, BAD, "BAD is ahead of FULL: filter", FILTER, one);
        }
    }

    private void filterNumbers() {
        says(11, "A FILTER of a KIND with a, b (THEN, BOTH: f, g; WHERE: m, f; those that it does not tell are not looked "
                + "at; a of ADD, STEP, TIMES from -100000 to 100000): its number.");
        int[][] told = {{ADD, -100000, MIN}, {ADD, 100000, MAX}, {TURN, MIN, MAX}, {TURN, MAX, MIN},
            {STEP, -100000, MIN}, {STEP, 100000, MAX}, {TIMES, -100000, 1}, {TIMES, 100000, 1000}, {SQUARE, 1, MIN},
            {SQUARE, 1000, MAX}, {RANK, 0, MIN}, {RANK, 8, MAX}, {THEN, 0, 11}, {THEN, 11, 0}, {WHERE, 0, 0},
            {WHERE, 5, 11}, {BOTH, 0, 0}, {BOTH, 11, 11}};
        for (int f = 0; f < told.length; f++) {
            due("filter " + f, room.filter(told[f][0], told[f][1], told[f][2]), f);
        }
        due("no acts", room.count(2), 0);
        refused(BAD, "filter", FILTER, numbers(-1, 0, 0), numbers(9, 0, 0), numbers(MIN, 0, 0), numbers(MAX, 0, 0),
                numbers(ADD, -100001, 0), numbers(ADD, 100001, 0), numbers(ADD, MIN, 0), numbers(STEP, -100001, 0),
                numbers(STEP, 100001, 0), numbers(STEP, MAX, 0), numbers(TIMES, -100001, 1), numbers(TIMES, 100001, 1),
                numbers(TIMES, MIN, 1));
        says(11, "3 TIMES a by b (b from 1 to 1000)");
        refused(BAD, "filter", FILTER, numbers(TIMES, 0, 0), numbers(TIMES, 0, 1001), numbers(TIMES, 0, -1),
                numbers(TIMES, 0, MIN), numbers(TIMES, 0, MAX));
        due("b = 1", room.filter(TIMES, 0, 1), 0);
        due("b = 1000", room.filter(TIMES, 0, 1000), 1);
        says(11, "4 SQUARE d (1 to 1000)");
        refused(BAD, "filter", FILTER, numbers(SQUARE, 0, 1), numbers(SQUARE, 1001, 1), numbers(SQUARE, -1, 1),
                numbers(SQUARE, MIN, 1), numbers(SQUARE, MAX, 1));
        due("d = 1", room.filter(SQUARE, 1, 0), 0);
        due("d = 1000", room.filter(SQUARE, 1000, 0), 1);
        says(11, "5 RANK k (0 to 8)");
        refused(BAD, "filter", FILTER, numbers(RANK, -1, 0), numbers(RANK, 9, 0), numbers(RANK, MIN, 0),
                numbers(RANK, MAX, 0));
        due("k = 0", room.filter(RANK, 0, 0), 0);
        due("k = 8", room.filter(RANK, 8, 0), 1);
    }

    private void filterParts() {
        says(11, "6 THEN f, g (lesser FILTERS)");
        due("no FILTER yet", room.filter(THEN, 0, 0), BAD);
        due("no FILTER yet", room.filter(BOTH, 0, 0), BAD);
        due("no FILTER yet", room.filter(WHERE, 0, 0), BAD);
        due("none came", room.count(0), 0);
        room.filter(TURN, 0, 0);
        due("itself", room.filter(THEN, 0, 1), BAD);
        due("itself", room.filter(THEN, 1, 0), BAD);
        due("itself", room.filter(BOTH, 0, 1), BAD);
        due("itself", room.filter(BOTH, 1, 0), BAD);
        due("itself", room.filter(WHERE, 0, 1), BAD);
        due("the one ahead of it", room.filter(THEN, 0, 0), 1);
        // Of a furnished room: the last FILTER is 8, the next one would be 9.
        refused(BAD, "filter", FILTER, numbers(THEN, -1, 0), numbers(THEN, 0, -1), numbers(THEN, 9, 0),
                numbers(THEN, 0, 9), numbers(BOTH, -1, 0), numbers(BOTH, 0, -1), numbers(BOTH, 9, 0),
                numbers(BOTH, 0, 9), numbers(THEN, MIN, MAX), numbers(BOTH, MAX, MIN), numbers(THEN, 24, 24));
        says(11, "7 WHERE m, f (f a lesser FILTER)");
        refused(BAD, "filter", FILTER, numbers(WHERE, -1, 0), numbers(WHERE, 6, 0), numbers(WHERE, 0, -1),
                numbers(WHERE, 0, 9), numbers(WHERE, MIN, 0), numbers(WHERE, 0, MAX), numbers(WHERE, 0, 24));
        due("the first FILTER", room.filter(ADD, 1, 0), 0);
        due("MASK 0", room.filter(WHERE, 0, 0), 1);
        due("MASK 5", room.filter(WHERE, 5, 1), 2);
    }

    private void filterHigh() {
        says(11, "A FILTER is as HIGH as 1 and the HIGHEST of those that it has, 4 at most.");
        for (int kind = THEN; kind <= BOTH; kind++) {
            room = new DarkRoom();
            room.filter(TURN, 0, 0);
            due("2 HIGH", room.filter(kind, 0, 0), 1);
            due("3 HIGH", room.filter(kind, kind == WHERE ? 0 : 1, 1), 2);
            due("4 HIGH", room.filter(kind, kind == WHERE ? 5 : 2, kind == WHERE ? 2 : 0), 3);
            due("4 HIGH by its second", room.filter(kind, 0, 2), 4);
            due("5 HIGH", room.filter(kind, 0, 3), BAD);
            due("5 HIGH", room.filter(kind, 0, 4), BAD);
            due("5 HIGH by its first", room.filter(THEN, 3, 0), BAD);
            due("5 HIGH by its first", room.filter(BOTH, 4, 0), BAD);
            due("MASK 3 is not FILTER 3", room.filter(WHERE, 3, 2), 5);
            due("none too HIGH came", room.count(0), 6);
            room.picture(0, BYTES, 2, 1);
            room.mask(0, 0, 0, true);
            room.mask(5, 0, 0, true);
            // THEN turns five times, which is once; WHERE turns where both MASKS are ON.
            due("the HIGHEST works", room.apply(0, 3, HELD), kind == WHERE ? 1 : 2);
            due("the HIGHEST works", room.about(0, 5), kind == WHERE ? 255 : 510);
        }
        highAtWork();
        // Of a furnished room: 2 is 2 HIGH, 3 is 3 HIGH, 4 is 4 HIGH.
        refused(BAD, "filter", FILTER, numbers(THEN, 4, 0), numbers(THEN, 0, 4), numbers(WHERE, 0, 4),
                numbers(BOTH, 4, 0), numbers(BOTH, 0, 4), numbers(BOTH, 4, 4));
    }

    /** A FILTER that moves all by one to the right shows how often, and of which PICTURE, each part is made. */
    private void highAtWork() {
        room = new DarkRoom();
        room.filter(SQUARE, 1, 0);
        room.weight(0, 3, 1);
        room.filter(THEN, 0, 0);
        room.filter(THEN, 1, 0);
        room.filter(THEN, 2, 0);
        room.filter(THEN, 0, 1);
        room.filter(THEN, 0, 4);
        room.filter(THEN, 1, 1);
        room.filter(THEN, 6, 6);
        room.filter(BOTH, 2, 4);
        room.filter(BOTH, 1, 6);
        room.filter(BOTH, 0, 1);
        room.filter(THEN, 10, 1);
        room.filter(THEN, 1, 10);
        int[][] want = {{0, 8, 16, 24, 32, 40, 48, 56, 64}, {0, 0, 8, 16, 24, 32, 40, 48, 56},
            {0, 0, 0, 8, 16, 24, 32, 40, 48}, {0, 0, 0, 0, 8, 16, 24, 32, 40}, {0, 0, 0, 8, 16, 24, 32, 40, 48},
            {0, 0, 0, 0, 8, 16, 24, 32, 40}, {0, 0, 0, 0, 8, 16, 24, 32, 40}, {0, 0, 0, 0, 0, 0, 0, 0, 8},
            {0, 0, 0, 8, 16, 24, 32, 40, 48}, {0, 0, 4, 8, 16, 24, 32, 40, 48}, {0, 4, 12, 20, 28, 36, 44, 52, 60},
            {0, 0, 0, 4, 12, 20, 28, 36, 44}, {0, 0, 0, 4, 12, 20, 28, 36, 44}};
        for (int f = 0; f < want.length; f++) {
            lay(0, BYTES, 9, rising(9, 8, 8));
            room.apply(0, f, NOUGHT);
            duePicture("moved by FILTER " + f, 0, BYTES, 9, want[f]);
        }
    }

    private void weight() {
        says(12, "WEIGHTS are told by weight() (0 at first).");
        room.filter(SQUARE, 1, 0);
        room.filter(SQUARE, 1, 0);
        lay(0, SHORTS, 2, 5, -5);
        due("all are 0 at first", room.apply(0, 0, HELD), 2);
        duePicture("all are 0 at first", 0, SHORTS, 2, 0, 0);
        for (int i = 0; i < 9; i++) {
            due("0 at first", room.weight(0, i, 7), 0);
            due("another one's stays", room.weight(1, i, 0), 0);
        }

        says(12, "The WEIGHT (-1000 to 1000) of a SQUARE at i (0 to 8, row by row): what it was.");
        int[] around = {1, 2, 3, 4, 5, 6, 7, 8, 9};
        for (int i = 0; i <= 8; i++) {
            room = new DarkRoom();
            room.filter(SQUARE, 1, 0);
            lay(0, SHORTS, 3, around);
            due("least", room.weight(0, i, -1000), 0);
            due("greatest", room.weight(0, i, 1000), -1000);
            room.apply(0, 0, HELD);
            due("greatest", room.at(0, 1, 1, HELD), 1000 * around[i]);
            due("was", room.weight(0, i, 0), 1000);
            for (int other = 0; other <= 8; other++) {
                due("the others stay", room.weight(0, other, 0), 0);
            }
        }
        says(12, "BAD; NO: not a SQUARE.");
        refused(BAD, "weight", WEIGHT, numbers(1, -1, 0), numbers(1, 9, 0), numbers(1, MIN, 0), numbers(1, MAX, 0),
                numbers(1, 0, -1001), numbers(1, 8, 1001), numbers(1, 0, MIN), numbers(1, 0, MAX), numbers(-1, 0, 0),
                numbers(9, 0, 0), numbers(24, 0, 0), numbers(MIN, 0, 0), numbers(MAX, 0, 0));
        refused(BAD, "BAD is ahead of NO: weight", WEIGHT, numbers(0, 9, 0), numbers(0, -1, 0), numbers(0, 0, 1001),
                numbers(8, 0, -1001));
        for (int f = 0; f <= 8; f++) {
            if (f != 1) {
                refused(NO, "weight", WEIGHT, numbers(f, 0, 0), numbers(f, 8, 1000));
            }
        }
    }

    /** What a FILTER makes of these BYTES, and of these SHORTS. */
    private void made(int kind, int a, int b, int[] from, int... to) {
        int of = from.length == 6 ? BYTES : SHORTS;
        room = new DarkRoom();
        lay(0, of, from.length, from);
        room.filter(kind, a, b);
        String call = "KIND " + kind + " with " + a + ", " + b;
        due(call, room.apply(0, 0, HELD), changes(from, to));
        duePicture(call, 0, of, from.length, to);
    }

    private void applyEach() {
        int[] bytes = {0, 1, 127, 128, 254, 255};
        int[] shorts = {-32768, -32767, -1, 0, 1, 32766, 32767};
        says(13, "0 ADD a: v and a, KEPT.");
        made(ADD, 0, 0, bytes, bytes);
        made(ADD, 1, 0, bytes, 1, 2, 128, 129, 255, 255);
        made(ADD, -1, 0, bytes, 0, 0, 126, 127, 253, 254);
        made(ADD, 255, 0, bytes, alike(6, 255));
        made(ADD, -254, 0, bytes, 0, 0, 0, 0, 0, 1);
        made(ADD, -255, 0, bytes, alike(6, 0));
        made(ADD, 100000, 0, bytes, alike(6, 255));
        made(ADD, -100000, 0, bytes, alike(6, 0));
        made(ADD, 1, 0, shorts, -32767, -32766, 0, 1, 2, 32767, 32767);
        made(ADD, -1, 0, shorts, -32768, -32768, -2, -1, 0, 32765, 32766);
        made(ADD, 65534, 0, shorts, 32766, 32767, 32767, 32767, 32767, 32767, 32767);
        made(ADD, -65534, 0, shorts, -32768, -32768, -32768, -32768, -32768, -32768, -32767);
        made(ADD, 100000, 0, shorts, alike(7, 32767));
        made(ADD, -100000, 0, shorts, alike(7, -32768));

        says(13, "LEAST and GREATEST are of a KIND the least and greatest PIXEL.");
        made(STEP, 128, 0, bytes, 0, 0, 0, 255, 255, 255);
        made(STEP, 0, 0, shorts, -32768, -32768, -32768, 32767, 32767, 32767, 32767);

        says(13, "1 TURN: LEAST and GREATEST, less v.");
        made(TURN, 0, 0, bytes, 255, 254, 128, 127, 1, 0);
        made(TURN, 0, 0, shorts, 32767, 32766, 0, -1, -2, -32767, -32768);

        says(13, "2 STEP a: GREATEST, if v is at least a, else LEAST.");
        made(STEP, 127, 0, bytes, 0, 0, 255, 255, 255, 255);
        made(STEP, 129, 0, bytes, 0, 0, 0, 0, 255, 255);
        made(STEP, 0, 0, bytes, alike(6, 255));
        made(STEP, 1, 0, bytes, 0, 255, 255, 255, 255, 255);
        made(STEP, 255, 0, bytes, 0, 0, 0, 0, 0, 255);
        made(STEP, 256, 0, bytes, alike(6, 0));
        made(STEP, -100000, 0, bytes, alike(6, 255));
        made(STEP, 100000, 0, bytes, alike(6, 0));
        made(STEP, -32768, 0, shorts, alike(7, 32767));
        made(STEP, -32767, 0, shorts, -32768, 32767, 32767, 32767, 32767, 32767, 32767);
        made(STEP, 32767, 0, shorts, -32768, -32768, -32768, -32768, -32768, -32768, 32767);
        made(STEP, 32768, 0, shorts, alike(7, -32768));
        made(STEP, -32769, 0, shorts, alike(7, 32767));
    }

    private void applyTimes() {
        says(13, "3 TIMES a by b (b from 1 to 1000): v times a, divided by b, rounded to the nearest (a half goes up), "
                + "KEPT.");
        int[] bytes = {0, 1, 2, 3, 254, 255};
        int[] shorts = {-32768, -3, -1, 0, 1, 3, 32767};
        made(TIMES, 1, 1, bytes, bytes);
        made(TIMES, 1000, 1000, shorts, shorts);
        made(TIMES, 0, 1000, shorts, alike(7, 0));
        made(TIMES, 1, 2, bytes, 0, 1, 1, 2, 127, 128);
        made(TIMES, 499, 1000, bytes, 0, 0, 1, 1, 127, 127);
        made(TIMES, 500, 1000, bytes, 0, 1, 1, 2, 127, 128);
        made(TIMES, 501, 1000, bytes, 0, 1, 1, 2, 127, 128);
        made(TIMES, 1, 2, shorts, -16384, -1, 0, 0, 1, 2, 16384);
        made(TIMES, -1, 2, shorts, 16384, 2, 1, 0, 0, -1, -16383);
        made(TIMES, 499, 1000, shorts, -16351, -1, 0, 0, 0, 1, 16351);
        made(TIMES, 501, 1000, shorts, -16417, -2, -1, 0, 1, 2, 16416);
        made(TIMES, 1, 3, shorts, -10923, -1, 0, 0, 0, 1, 10922);
        made(TIMES, 1, 1000, shorts, -33, 0, 0, 0, 0, 0, 33);
        made(TIMES, 2, 1, bytes, 0, 2, 4, 6, 255, 255);
        made(TIMES, -1, 1, bytes, alike(6, 0));
        made(TIMES, -1, 1, shorts, 32767, 3, 1, 0, -1, -3, -32767);
        made(TIMES, 100000, 1, shorts, -32768, -32768, -32768, 0, 32767, 32767, 32767);
        made(TIMES, -100000, 1, shorts, 32767, 32767, 32767, 0, -32768, -32768, -32768);
        made(TIMES, 100000, 1000, shorts, -32768, -300, -100, 0, 100, 300, 32767);
        made(TIMES, 100000, 1, bytes, 0, 255, 255, 255, 255, 255);
        made(TIMES, -100000, 1000, bytes, alike(6, 0));
    }

    /** A SQUARE of d with one WEIGHT for the PIXEL itself. */
    private void squared(int d, int weight, int from, int to) {
        room = new DarkRoom();
        lay(0, SHORTS, 1, from);
        room.filter(SQUARE, d, 0);
        room.weight(0, 4, weight);
        due(from + " times " + weight + " by " + d, room.apply(0, 0, NOUGHT), from == to ? 0 : 1);
        due(from + " times " + weight + " by " + d, room.at(0, 0, 0, HELD), to);
    }

    private void applySquare() {
        says(13, "4 SQUARE d (1 to 1000): of the nine PIXELS around and with it, each times its WEIGHT, the sum divided by "
                + "d, rounded alike, KEPT.");
        int[][] told = {{1, 1, 5, 5}, {1000, 499, 1, 0}, {1000, 500, 1, 1}, {1000, 501, 1, 1}, {1000, -499, 1, 0},
            {1000, -500, 1, 0}, {1000, -501, 1, -1}, {2, 1, -3, -1}, {2, 1, 3, 2}, {1, 1, 32767, 32767},
            {1, 2, 32767, 32767}, {1, 2, 16383, 32766}, {1, 2, 16384, 32767}, {1, 2, -16384, -32768},
            {1, 2, -16385, -32768}, {1, -1, -32768, 32767}, {1, 1000, -32768, -32768}, {1000, 1000, -32768, -32768},
            {3, 1, 1, 0}, {3, 1, 2, 1}, {3, -1, 1, 0}, {3, -1, 2, -1}};
        for (int[] one : told) {
            squared(one[0], one[1], one[2], one[3]);
        }
        int[][] greatest = {{1000, 32767, 1, 32767}, {-1000, 32767, 1, -32768}, {1000, -32768, 1, -32768},
            {-1000, -32768, 1, 32767}, {1000, 3641, 1000, 32767}, {1000, 3640, 1000, 32760}, {1000, -3641, 1000, -32768}};
        for (int[] one : greatest) {
            room = new DarkRoom();
            lay(0, SHORTS, 3, alike(9, one[1]));
            room.filter(SQUARE, one[2], 0);
            for (int i = 0; i < 9; i++) {
                room.weight(0, i, one[0]);
            }
            room.apply(0, 0, WRAPPED);
            duePicture("nine of " + one[0], 0, SHORTS, 3, alike(9, one[3]));
        }
        room = new DarkRoom();
        lay(0, BYTES, 3, 1, 2, 3);
        room.filter(SQUARE, 1, 0);
        room.weight(0, 4, -1);
        room.weight(0, 5, 1);
        due("BYTES, KEPT", room.apply(0, 0, NOUGHT), 2);
        duePicture("BYTES, KEPT", 0, BYTES, 3, 1, 1, 0);

        says(13, "make of each PIXEL v of a PICTURE a new one (of the PICTURE as it was): KINDS");
        room.filter(SQUARE, 1, 0);
        room.weight(0, 3, 1);
        room.weight(0, 1, 10);
        int[][] want = {{11, 11, 21, 17, 17, 28}, {11, 11, 21, 17, 17, 28}, {72, 81, 91, 19, 17, 28},
            {0, 1, 1, 10, 17, 28}};
        for (int edge = HELD; edge <= NOUGHT; edge++) {
            lay(0, SHORTS, 3, 1, 1, 2, 7, 8, 9);
            room.apply(0, 0, edge);
            duePicture("the left one and ten times the one above, EDGE " + edge, 0, SHORTS, 3, want[edge]);
        }
    }

    private void applyRank() {
        says(13, "5 RANK k (0 to 8): of these nine the one at k, rising.");
        int[] mixed = {40, -32768, 7, 32767, 0, -1, 7, 90, 3};
        int[] rising = {-32768, -1, 0, 3, 7, 7, 40, 90, 32767};
        for (int k = 0; k <= 8; k++) {
            room = new DarkRoom();
            room.filter(RANK, k, 0);
            lay(0, SHORTS, 3, mixed);
            room.apply(0, 0, HELD);
            due("k = " + k, room.at(0, 1, 1, HELD), rising[k]);
            lay(1, SHORTS, 1, -4);
            due("one PIXEL, HELD", room.apply(1, 0, HELD), 0);
            due("one PIXEL below 0 and eight noughts", room.apply(1, 0, NOUGHT), k == 0 ? 0 : 1);
            lay(2, BYTES, 1, 4);
            due("one PIXEL above 0 and eight noughts", room.apply(2, 0, NOUGHT), k == 8 ? 0 : 1);
        }
    }

    private void applyTogether() {
        says(13, "6 THEN f, g (lesser FILTERS): what g makes of what f makes of the PICTURE.");
        room.filter(ADD, 200, 0);
        room.filter(ADD, -200, 0);
        room.filter(THEN, 0, 1);
        room.filter(THEN, 1, 0);
        lay(0, BYTES, 4, 0, 55, 56, 255);
        due("KEPT between them", room.apply(0, 2, HELD), 2);
        duePicture("KEPT between them", 0, BYTES, 4, 0, 55, 55, 55);
        lay(0, BYTES, 4, 0, 199, 201, 255);
        due("the other first", room.apply(0, 3, HELD), 2);
        duePicture("the other first", 0, BYTES, 4, 200, 200, 201, 255);
        room.filter(SQUARE, 1, 0);
        room.weight(4, 3, 1);
        room.filter(THEN, 0, 4);
        lay(0, BYTES, 2, 1, 2);
        room.apply(0, 5, NOUGHT);
        duePicture("the EDGE of what f makes", 0, BYTES, 2, 0, 201);

        says(13, "7 WHERE m, f (f a lesser FILTER): what f makes, where MASK m is ON, else v.");
        for (int m = 0; m <= 5; m += 5) {
            room = new DarkRoom();
            room.filter(TURN, 0, 0);
            room.filter(WHERE, m, 0);
            room.picture(0, BYTES, 16, 16);
            due("OFF all over", room.apply(0, 1, HELD), 0);
            room.mask(m, 0, 0, true);
            room.mask(m, 15, 15, true);
            due("two corners", room.apply(0, 1, HELD), 2);
            due("two corners", room.at(0, 0, 0, HELD) + room.at(0, 15, 15, HELD), 510);
            due("no more", room.about(0, 5), 510);
            room.maskBy(m, 5 - m, 3);
            due("ON all over", room.apply(0, 1, HELD), 256);
            due("ON all over", room.about(0, 5), 254 * 255);
            room.picture(1, SHORTS, 1, 1);
            due("a lesser PICTURE", room.apply(1, 1, HELD), 1);
            due("a lesser PICTURE", room.at(1, 0, 0, HELD), -1);
        }

        says(13, "8 BOTH f, g: half the sum of what f and g make, rounded down.");
        room.filter(ADD, 0, 0);
        room.filter(ADD, 1, 0);
        room.filter(BOTH, 0, 1);
        room.filter(BOTH, 0, 0);
        room.filter(TURN, 0, 0);
        room.filter(BOTH, 0, 4);
        lay(0, SHORTS, 5, -32768, -1, 0, 5, 32767);
        due("down, below 0 too", room.apply(0, 2, HELD), 0);
        due("both alike", room.apply(0, 3, HELD), 0);
        due("to the midst", room.apply(0, 5, HELD), 4);
        duePicture("to the midst", 0, SHORTS, 5, -1, -1, -1, -1, -1);
        lay(0, BYTES, 2, 255, 0);
        due("BYTES", room.apply(0, 3, HELD), 0);
        due("BYTES", room.apply(0, 5, HELD), 2);
        duePicture("BYTES", 0, BYTES, 2, 127, 127);
    }

    private void apply() {
        says(13, "A PICTURE becomes what a FILTER makes of it, by an EDGE: how many PIXELS changed.");
        room.filter(ADD, 1, 0);
        for (int p = 0; p < 8; p++) {
            lay(p, p % 2, 2, 254, 255);
            due("PICTURE " + p, room.apply(p, 0, p % 4), 1 + p % 2);
            duePicture("PICTURE " + p, p, p % 2, 2, 255, 255 + p % 2);
        }
        room.filter(TURN, 0, 0);
        room.picture(0, SHORTS, 16, 16);
        due("all of the greatest size", room.apply(0, 1, HELD), 256);
        due("all of the greatest size", room.about(0, 5), -256);

        tallAndWide();
        says(13, "BAD; NO: it is MISSING.");
        refused(BAD, "apply", APPLY, numbers(-1, 0, 0), numbers(8, 0, 0), numbers(0, -1, 0), numbers(0, 9, 0),
                numbers(0, 24, 0), numbers(0, MIN, 0), numbers(0, MAX, 0), numbers(0, 0, -1), numbers(0, 0, 4),
                numbers(0, 0, MIN), numbers(0, 0, MAX), numbers(MIN, MAX, 0));
        refused(BAD, "BAD is ahead of NO: apply", APPLY, numbers(6, 9, 0), numbers(6, 0, 4), numbers(6, -1, 0));
        refused(NO, "apply", APPLY, numbers(6, 0, 0), numbers(7, 8, 3));
    }

    /** One wide and one high, so that w and h can't stand for one another. */
    private void tallAndWide() {
        room = new DarkRoom();
        room.filter(SQUARE, 1, 0);
        room.weight(0, 4, 2);
        room.weight(0, 3, 1);
        room.weight(0, 1, 1);
        room.filter(RANK, 5, 0);
        room.filter(TURN, 0, 0);
        room.filter(WHERE, 0, 2);
        room.filter(BOTH, 0, 3);
        room.mask(0, 0, 3, true);
        room.mask(0, 3, 0, true);
        int[][] want = {{2, 5, 8, 11, 14}, {0, 0, 0, 0, 0}, {254, 253, 252, 251, 250}, {1, 2, 3, 251, 5},
            {1, 3, 5, 131, 9}};
        for (int f = 0; f < want.length; f++) {
            for (int w = 1; w <= 5; w += 4) {
                lay(0, BYTES, w, 1, 2, 3, 4, 5);
                due("FILTER " + f + ", " + w + " wide", room.apply(0, f, NOUGHT),
                        changes(numbers(1, 2, 3, 4, 5), want[f]));
                duePicture("FILTER " + f + ", " + w + " wide", 0, BYTES, w, want[f]);
            }
        }
    }

    private void mask() {
        says(14, "MASKS 0 to 5 are 16 by 16, ON or OFF at each x, y (OFF at first).");
        int[][] corners = {{0, 0}, {15, 0}, {0, 15}, {15, 15}};
        for (int m = 0; m <= 5; m++) {
            for (int[] xy : corners) {
                due("OFF at first", room.isOn(m, xy[0], xy[1]), 0);
                due("becomes ON", room.mask(m, xy[0], xy[1], true), 0);
                due("is ON", room.isOn(m, xy[0], xy[1]), 1);
            }
            due("at four alone", room.maskBy(m, m, 4), 4);
        }

        says(14, "MASK m at x, y is ON, or OFF: what it was (1, 0). BAD.");
        due("OFF to OFF", room.mask(0, 15, 15, false), 0);
        due("OFF to ON", room.mask(0, 15, 15, true), 0);
        due("ON to ON", room.mask(0, 15, 15, true), 1);
        due("ON to OFF", room.mask(0, 15, 15, false), 1);
        due("OFF", room.isOn(0, 15, 15), 0);
        int[][] wrong = {{-1, 0, 0}, {6, 0, 0}, {MIN, 0, 0}, {MAX, 0, 0}, {0, -1, 1}, {0, 16, 1}, {0, 1, -1}, {0, 1, 16},
            {0, MIN, 0}, {0, 0, MAX}, {0, 32, 0}, {0, 33, 1}, {5, 16, 15}, {5, 15, 16}};
        for (int[] one : wrong) {
            refused(BAD, "mask", MASK, numbers(one[0], one[1], one[2], 1), numbers(one[0], one[1], one[2], 0));
        }
    }

    private void maskOf() {
        says(15, "MASK m is ON just where a PICTURE has a PIXEL from low to high: at how many.");
        int[] pixels = {-32768, -2, -1, 0, 1, 2, 32766, 32767};
        int[][] told = {{-1, 1, 3}, {0, 0, 1}, {1, 0, 0}, {2, 1, 0}, {-32768, 32767, 8}, {-32767, 32766, 6},
            {MIN, MAX, 8}, {MAX, MIN, 0}, {MIN, -32768, 1}, {32767, MAX, 1}, {32768, MAX, 0}, {MIN, -32769, 0}};
        for (int[] one : told) {
            room = new DarkRoom();
            lay(7, SHORTS, 4, pixels);
            room.maskBy(5, 0, 3);
            due("from " + one[0] + " to " + one[1], room.maskOf(5, 7, one[0], one[1]), one[2]);
            for (int i = 0; i < 256; i++) {
                boolean has = i % 16 < 4 && i / 16 < 2;
                int v = has ? pixels[i / 16 * 4 + i % 16] : 0;
                due("from " + one[0] + " to " + one[1] + " at " + i, room.isOn(5, i % 16, i / 16),
                        has && one[0] <= v && v <= one[1] ? 1 : 0);
            }
        }
        room = new DarkRoom();
        room.picture(0, BYTES, 16, 16);
        due("at all", room.maskOf(0, 0, 0, 0), 256);
        Scene.wear(room);
        lay(1, BYTES, 2, 3, 4);
        due("in a worn room", room.maskOf(1, 1, 4, 4), 1);
        due("in a worn room", room.isOn(1, 1, 0), 1);
        due("at none", room.maskOf(0, 0, 1, 255), 0);
        room.put(0, 15, 15, 255);
        due("at the last", room.maskOf(0, 0, 1, 255), 1);
        due("at the last", room.isOn(0, 15, 15), 1);

        says(15, "BAD; NO: it is MISSING.");
        refused(BAD, "maskOf", MASK_OF, numbers(-1, 0, 0, 1), numbers(6, 0, 0, 1), numbers(0, -1, 0, 1),
                numbers(0, 8, 0, 1), numbers(MIN, MAX, 0, 1));
        refused(BAD, "BAD is ahead of NO: maskOf", MASK_OF, numbers(-1, 6, 0, 1), numbers(6, 6, 0, 1));
        refused(NO, "maskOf", MASK_OF, numbers(0, 6, 0, 1), numbers(5, 7, MIN, MAX));
    }

    private void maskBy() {
        says(16, "MASK m becomes by another one n: how = 0 AND, 1 OR, 2 UNLIKE, 3 what n is not, 4 n,");
        int[] many = {64, 192, 128, 128, 128};
        for (int how = 0; how <= 4; how++) {
            room = new DarkRoom();
            halves();
            due("how = " + how, room.maskBy(0, 5, how), many[how]);
            for (int i = 0; i < 16; i++) {
                int x = i % 4 * 5;
                int y = i / 4 * 5;
                boolean own = x < 8;
                boolean other = y < 8;
                boolean[] want = {own && other, own || other, own != other, !other, other};
                due("how = " + how + " at " + x + ", " + y, room.isOn(0, x, y), want[how] ? 1 : 0);
                due("n stays", room.isOn(5, x, y), other ? 1 : 0);
            }
        }
        int[] itself = {128, 128, 0, 128, 128};
        for (int how = 0; how <= 4; how++) {
            room = new DarkRoom();
            halves();
            due("n is m, how = " + how, room.maskBy(0, 0, how), itself[how]);
            due("n is m, how = " + how, room.isOn(0, 15, 0), how == 3 ? 1 : 0);
        }

        says(16, "at how many it is ON. BAD.");
        for (int how = 0; how <= 6; how++) {
            room = new DarkRoom();
            due("of two that are OFF", room.maskBy(0, 1, how), how == 3 ? 256 : 0);
        }
        for (int how = 0; how <= 6; how++) {
            room = new DarkRoom();
            room.maskBy(0, 2, 3);
            room.maskBy(1, 2, 3);
            due("of two that are ON", room.maskBy(0, 1, how), how == 2 || how == 3 ? 0 : 256);
        }
        refused(BAD, "maskBy", MASK_BY, numbers(-1, 0, 4), numbers(6, 0, 4), numbers(0, -1, 4), numbers(0, 6, 4),
                numbers(0, 1, -1), numbers(0, 1, 7), numbers(0, 1, MIN), numbers(0, 1, MAX), numbers(MIN, MAX, 0));
    }

    /** MASK 0 is ON on the left, MASK 5 above. */
    private void halves() {
        room.picture(0, BYTES, 8, 16);
        room.maskOf(0, 0, 0, 0);
        room.picture(0, BYTES, 16, 8);
        room.maskOf(5, 0, 0, 0);
    }

    /** Whether any, or all, of a place and its neighbours within are among the places. */
    private static boolean near(int[][] places, int x, int y, boolean all) {
        int[][] steps = {{0, 0}, {1, 0}, {-1, 0}, {0, 1}, {0, -1}};
        boolean any = false;
        boolean each = true;
        for (int[] step : steps) {
            int atX = x + step[0];
            int atY = y + step[1];
            if (atX >= 0 && atX < 16 && atY >= 0 && atY < 16) {
                boolean is = false;
                for (int[] place : places) {
                    is |= place[0] == atX && place[1] == atY;
                }
                any |= is;
                each &= is;
            }
        }
        return all ? each : any;
    }

    private static final int[][][] SPOTS = {{{0, 0}}, {{15, 0}}, {{0, 15}}, {{15, 15}}, {{7, 0}}, {{0, 7}}, {{15, 7}},
        {{7, 15}}, {{7, 7}}, {{1, 1}, {3, 1}}, {{15, 3}, {0, 5}}, {{5, 5}, {6, 5}, {5, 6}}, {}};

    private void maskGrown() {
        says(16, "5 n GROWN (ON also beside, above and beneath what is ON),");
        int[] many = {3, 3, 3, 3, 4, 4, 4, 4, 5, 9, 8, 10, 0};
        for (int i = 0; i < SPOTS.length; i++) {
            room = new DarkRoom();
            for (int[] place : SPOTS[i]) {
                room.mask(0, place[0], place[1], true);
            }
            due("spots " + i, room.maskBy(1, 0, 5), many[i]);
            due("n stays", room.maskBy(0, 0, 4), SPOTS[i].length);
            for (int k = 0; k < 256; k++) {
                due("spots " + i + " at " + k, room.isOn(1, k % 16, k / 16),
                        near(SPOTS[i], k % 16, k / 16, false) ? 1 : 0);
            }
            due("n is m", room.maskBy(0, 0, 5), many[i]);
        }
    }

    private void maskShrunk() {
        says(16, "6 n SHRUNK (ON just where it and all four of these within are):");
        int[] off = {3, 3, 3, 3, 4, 4, 4, 4, 5, 9, 8, 10, 0};
        for (int i = 0; i < SPOTS.length; i++) {
            room = new DarkRoom();
            room.maskBy(0, 5, 3);
            for (int[] place : SPOTS[i]) {
                room.mask(0, place[0], place[1], false);
            }
            due("holes " + i, room.maskBy(1, 0, 6), 256 - off[i]);
            for (int k = 0; k < 256; k++) {
                due("holes " + i + " at " + k, room.isOn(1, k % 16, k / 16),
                        near(SPOTS[i], k % 16, k / 16, false) ? 0 : 1);
            }
            due("n is m", room.maskBy(0, 0, 6), 256 - off[i]);
        }
        int[][] plus = {{0, 0}, {1, 0}, {0, 1}, {8, 8}, {7, 8}, {9, 8}, {8, 7}, {8, 9}, {12, 3}, {13, 3}, {11, 3}, {12, 2}};
        room = new DarkRoom();
        for (int[] place : plus) {
            room.mask(0, place[0], place[1], true);
        }
        due("a corner, a whole cross, no broken one", room.maskBy(1, 0, 6), 2);
        for (int k = 0; k < 256; k++) {
            due("crosses at " + k, room.isOn(1, k % 16, k / 16), near(plus, k % 16, k / 16, true) ? 1 : 0);
        }
    }

    private void isOn() {
        says(17, "1: MASK m is ON at x, y, 0. BAD.");
        room.mask(5, 15, 0, true);
        due("ON", room.isOn(5, 15, 0), 1);
        due("x is not y", room.isOn(5, 0, 15), 0);
        due("the one beside", room.isOn(5, 14, 0), 0);
        due("the one beneath", room.isOn(5, 15, 1), 0);
        due("another MASK", room.isOn(4, 15, 0), 0);
        refused(BAD, "isOn", IS_ON, numbers(-1, 0, 0), numbers(6, 0, 0), numbers(0, -1, 0), numbers(0, 16, 0),
                numbers(0, 0, -1), numbers(0, 0, 16), numbers(MIN, 0, 0), numbers(0, MAX, 0), numbers(0, 0, MIN),
                numbers(0, 33, 1), numbers(5, 47, 15));
        noAct(1, "isOn", IS_ON, 0, 1, 1);
        noAct(1, "isOn", IS_ON, 5, 15, 15);
        noAct(0, "isOn", IS_ON, 0, 0, 0);
        noAct(0, "isOn", IS_ON, 5, 0, 0);
    }
}
