/** The bounds of the promises 1 to 10: pictures. */
final class BoundsOfPictures extends Bounds {
    private static final Call PICTURE = (r, a) -> r.picture(a[0], a[1], a[2], a[3]);
    private static final Call PUT = (r, a) -> r.put(a[0], a[1], a[2], a[3]);
    private static final Call FEED = (r, a) -> r.feed(a[0], a[1], a[2], a[3], a[4]);
    private static final Call AT = (r, a) -> r.at(a[0], a[1], a[2], a[3]);
    private static final Call ABOUT = (r, a) -> r.about(a[0], a[1]);
    private static final Call CONVERT = (r, a) -> r.convert(a[0], a[1], a[2], a[3]);
    private static final Call CUT = (r, a) -> r.cut(a[0], a[1], a[2], a[3], a[4], a[5], a[6]);
    private static final Call TURN = (r, a) -> r.turn(a[0], a[1], a[2]);
    private static final Call UNLIKE = (r, a) -> r.unlike(a[0], a[1]);

    BoundsOfPictures(Check check, Document document) {
        super(check, document);
    }

    void all() {
        newObject();
        sizes();
        picture();
        put();
        feed();
        feedShorts();
        feedBeyond();
        edges();
        at();
        about();
        convert();
        cut();
        turn();
        unlike();
    }

    private void newObject() {
        says(1, "All PICTURES MISSING, MASKS OFF, no FILTERS.");
        for (int p = 0; p < 8; p++) {
            for (int what = 0; what < 6; what++) {
                due("about " + p + " " + what, room.about(p, what), NONE);
            }
            due("runs " + p, room.runs(p, -1), NO);
        }
        for (int what = 0; what < 5; what++) {
            due("count " + what, room.count(what), 0);
        }
        due("no FILTER 0", room.apply(0, 0, 0), BAD);
        due("no FILTER 0", room.weight(0, 0, 0), BAD);
        due("nothing to take back", room.undo(), NO);
        due("nothing to do again", room.redo(), NO);
        due("nothing on THE TAPE", room.read(0), -1);
        for (int m = 0; m < 6; m++) {
            room = new DarkRoom();
            for (int i = 0; i < 256; i++) {
                due("MASK " + m + " at " + i, room.isOn(m, i % 16, i / 16), 0);
            }
        }
    }

    private void sizes() {
        says(2, "PICTURES 0 to 7 are MISSING (at first), or have a WIDTH w and a HEIGHT h (1 to 16), PIXELS x, y "
                + "(x from 0 to w - 1, y from 0 to h - 1), of a KIND");
        int[][] sizes = {{1, 1}, {1, 16}, {16, 1}, {16, 16}, {2, 15}, {15, 2}, {1, 2}, {2, 1}};
        for (int p = 0; p < 8; p++) {
            int w = sizes[p][0];
            int h = sizes[p][1];
            due("missing at first", room.about(p, 0), NONE);
            due(w + " by " + h, room.picture(p, p % 2, w, h), 0);
            due("KIND", room.about(p, 0), p % 2);
            due("w", room.about(p, 1), w);
            due("h", room.about(p, 2), h);
            due("the first PIXEL", room.put(p, 0, 0, 1), 0);
            due("the last PIXEL", room.put(p, w - 1, h - 1, 2), w * h == 1 ? 1 : 0);
            due("x = w", room.put(p, w, 0, 3), BAD);
            due("y = h", room.put(p, 0, h, 3), BAD);
            due("x = -1", room.put(p, -1, 0, 3), BAD);
            due("y = -1", room.put(p, 0, -1, 3), BAD);
            due("these two alone", room.about(p, 5), w * h == 1 ? 2 : 3);
        }
        due("all eight", room.count(1), 8);
        refused(BAD, "picture", PICTURE, numbers(-1, BYTES, 1, 1), numbers(8, BYTES, 1, 1), numbers(MIN, BYTES, 1, 1),
                numbers(MAX, SHORTS, 1, 1), numbers(0, BYTES, 0, 1), numbers(0, BYTES, 17, 1), numbers(0, BYTES, 1, 0),
                numbers(0, BYTES, 1, 17), numbers(0, SHORTS, 0, 16), numbers(0, SHORTS, 16, 17),
                numbers(6, BYTES, -1, -1), numbers(6, BYTES, MIN, MAX));
    }

    private void picture() {
        says(2, "PICTURE p becomes one of a KIND, w by h, all PIXELS 0, or MISSING (kind -1; w, h count for nothing): 0. "
                + "BAD.");
        int[][] anew = {{BYTES, 16, 16}, {SHORTS, 16, 16}, {BYTES, 1, 1}, {SHORTS, 3, 2}, {BYTES, 16, 1}};
        for (int[] one : anew) {
            room = new DarkRoom();
            lay(0, BYTES, 16, alike(256, 255));
            due("anew", room.picture(0, one[0], one[1], one[2]), 0);
            duePicture("all are 0", 0, one[0], one[1], new int[one[1] * one[2]]);
        }
        int[][] sizes = {{0, 0}, {17, 17}, {-1, 1}, {MIN, MAX}, {1, 1}, {16, 16}};
        for (int[] size : sizes) {
            room = new DarkRoom();
            room.picture(7, SHORTS, 2, 2);
            due("MISSING", room.picture(7, MISSING, size[0], size[1]), 0);
            due("is MISSING", room.about(7, 0), NONE);
            due("has no w", room.about(7, 1), NONE);
            due("has no PIXEL", room.put(7, 0, 0, 0), BAD);
            due("none stands", room.count(1), 0);
            due("MISSING again", room.picture(7, MISSING, size[0], size[1]), 0);
        }
        missingInWornRoom();
        refused(BAD, "picture", PICTURE, numbers(0, -2, 1, 1), numbers(0, 2, 1, 1), numbers(0, MIN, 1, 1),
                numbers(0, MAX, 1, 1), numbers(-1, MISSING, 0, 0), numbers(8, MISSING, 1, 1), numbers(6, 2, 1, 1));
    }

    private void missingInWornRoom() {
        room = new DarkRoom();
        Scene.wear(room);
        room.picture(0, BYTES, 3, 3);
        due("MISSING", room.picture(0, MISSING, 3, 3), 0);
        due("KIND", room.about(0, 0), NONE);
        due("sum", room.about(0, 5), NONE);
        due("at", room.at(0, 0, 0, HELD), BAD);
        due("put", room.put(0, 0, 0, 0), BAD);
        due("feed", room.feed(0, 0, 0, 0L, 2), BAD);
        due("fill", room.fill(0, 0, 0, 0, 0), NO);
        due("dither", room.dither(0, 2), NO);
        due("energy", room.energy(0, 0, 0), NO);
        due("seam", room.seam(0, 0), NO);
        due("seamGoes", room.seamGoes(0, 1), NO);
        due("runs", room.runs(0, 0), NO);
        due("unlike", room.unlike(0, 0), NO);
        due("none stands", room.count(1), 0);
    }

    private void put() {
        says(3, "0 BYTES, 0 to 255; 1 SHORTS, -32768 to 32767.");
        room.picture(0, BYTES, 1, 1);
        due("greatest BYTE", room.put(0, 0, 0, 255), 0);
        due("least BYTE", room.put(0, 0, 0, 0), 255);
        due("least BYTE", room.at(0, 0, 0, HELD), 0);
        room.picture(1, SHORTS, 1, 1);
        due("least SHORT", room.put(1, 0, 0, -32768), 0);
        due("greatest SHORT", room.put(1, 0, 0, 32767), -32768);
        due("greatest SHORT", room.at(1, 0, 0, HELD), 32767);

        says(3, "PIXEL x, y becomes v: what it was. BAD; NO: v is none of the KIND.");
        int[][] corners = {{0, 0}, {2, 0}, {0, 1}, {2, 1}};
        for (int i = 0; i < 4; i++) {
            room = new DarkRoom();
            lay(0, BYTES, 3, 1, 2, 3, 4, 5, 6);
            int x = corners[i][0];
            int y = corners[i][1];
            int[] want = {1, 2, 3, 4, 5, 6};
            want[3 * y + x] = 200;
            due("corner", room.put(0, x, y, 200), 1 + 3 * y + x);
            duePicture("this one alone", 0, BYTES, 3, want);
            due("again", room.put(0, x, y, 200), 200);
        }
        refused(BAD, "put", PUT, numbers(-1, 0, 0, 0), numbers(8, 0, 0, 0), numbers(6, 0, 0, 0), numbers(0, -1, 0, 1),
                numbers(0, 3, 0, 1), numbers(0, 0, -1, 1), numbers(0, 0, 2, 1), numbers(0, MIN, 0, 1),
                numbers(0, MAX, MAX, 1), numbers(4, 16, 15, 1), numbers(4, 15, 16, 1));
        refused(BAD, "BAD is ahead of NO: put", PUT, numbers(0, 3, 0, 256), numbers(6, 0, 0, 40000));
        refused(NO, "put", PUT, numbers(0, 0, 0, -1), numbers(0, 2, 1, 256), numbers(0, 0, 0, MIN),
                numbers(0, 0, 0, MAX), numbers(1, 0, 0, -32769), numbers(1, 1, 1, 32768), numbers(1, 0, 0, MAX));
    }

    private void feed() {
        says(4, "PIXELS from x, y on, row by row, become the n (1 to 8) lowest bytes of w, the lowest first");
        int[] bytes = {0x01, 0x80, 0xFF, 0x00, 0x7F, 0x55, 0xFE, 0x8A};
        for (int n = 1; n <= 8; n++) {
            int[] want = alike(12, 9);
            System.arraycopy(bytes, 0, want, 2, n);
            room = new DarkRoom();
            lay(0, BYTES, 4, alike(12, 9));
            due("n = " + n, room.feed(0, 2, 0, 0x8AFE557F00FF8001L, n), n);
            duePicture("n = " + n, 0, BYTES, 4, want);
        }
        for (int n = 1; n <= 8; n++) {
            room = new DarkRoom();
            room.picture(0, BYTES, 1, 8);
            due("the last " + n, room.feed(0, 0, 8 - n, -1L, n), n);
            due("the last " + n, room.about(0, 5), 255 * n);
            due("one too many: " + n, room.feed(0, 0, 9 - n, 0L, n), n == 1 ? BAD : NO);
            due("nothing changes", room.about(0, 5), 255 * n);
        }
    }

    private void feedShorts() {
        says(4, "(SHORTS: each two bytes one PIXEL, the low one first; n is 2, 4, 6 or 8): how many PIXELS.");
        int[] shorts = {-32768, 32767, -1, 256};
        for (int n = 2; n <= 8; n += 2) {
            int[] want = alike(6, 9);
            System.arraycopy(shorts, 0, want, 1, n / 2);
            room = new DarkRoom();
            lay(0, SHORTS, 2, alike(6, 9));
            due("n = " + n, room.feed(0, 1, 0, 0x0100_FFFF_7FFF_8000L, n), n / 2);
            duePicture("n = " + n, 0, SHORTS, 2, want);
            room.picture(1, SHORTS, 4, 1);
            due("the last ones, n = " + n, room.feed(1, 4 - n / 2, 0, -1L, n), n / 2);
            due("the last ones, n = " + n, room.about(1, 5), -n / 2);
            due("one too many, n = " + n, room.feed(1, 5 - n / 2, 0, 0L, n), n == 2 ? BAD : NO);
            due("nothing changes", room.about(1, 5), -n / 2);
        }
        refused(BAD, "feed", FEED, numbers(1, 0, 0, 0, 1), numbers(1, 0, 0, 0, 3), numbers(1, 0, 0, 0, 5),
                numbers(1, 0, 0, 0, 7), numbers(1, 0, 0, 0, 0), numbers(1, 0, 0, 0, 9), numbers(1, 0, 0, 0, 10),
                numbers(1, 0, 0, 0, -2), numbers(1, 0, 0, 0, MIN));
    }

    private void feedBeyond() {
        says(4, "BAD: also n; NO: beyond the PICTURE.");
        refused(BAD, "feed", FEED, numbers(0, 0, 0, 0, 0), numbers(0, 0, 0, 0, 9), numbers(0, 0, 0, 0, -1),
                numbers(0, 0, 0, 0, MIN), numbers(0, 0, 0, 0, MAX), numbers(-1, 0, 0, 0, 1), numbers(8, 0, 0, 0, 1),
                numbers(6, 0, 0, 0, 1), numbers(0, -1, 0, 0, 1), numbers(0, 3, 0, 0, 1), numbers(0, 0, -1, 0, 1),
                numbers(0, 0, 2, 0, 1), numbers(0, MAX, MAX, 0, 8), numbers(0, MIN, MIN, 0, 8));
        refused(BAD, "BAD is ahead of NO: feed", FEED, numbers(0, 2, 1, 0, 9), numbers(1, 1, 1, 0, 7),
                numbers(1, 1, 1, 0, 3));
        refused(NO, "feed", FEED, numbers(0, 2, 1, 0, 2), numbers(0, 0, 1, 0, 4), numbers(0, 0, 0, 0, 7),
                numbers(0, 0, 0, 0, 8), numbers(1, 1, 1, 0, 4), numbers(1, 1, 0, 0, 8), numbers(4, 15, 15, 0, 4),
                numbers(5, 0, 0, 0, 4));
    }

    /** Along one side step by step, as the words go: from PIXEL 0 to the right, and from it to the left. */
    private static int[] walked(int length, int edge, int direction) {
        int[] places = new int[1001];
        int going = direction;
        for (int i = 1; i <= 1000; i++) {
            int next = places[i - 1] + going;
            boolean inside = next >= 0 && next < length;
            if (edge == MIRRORED && !inside) {
                going = -going;
                next = places[i - 1];
            } else if (!inside) {
                next = edge == HELD ? places[i - 1] : direction > 0 ? 0 : length - 1;
            }
            places[i] = next;
        }
        return places;
    }

    private void edges() {
        String[] words = {"EDGES, what stands beyond a PICTURE: 0 HELD: the nearest PIXEL (x, y kept in the bounds);",
            "1 MIRRORED: x = -1 is 0, -2 is 1, w is w - 1, w + 1 is w - 2 (and so on, back and forth); y likewise;",
            "2 WRAPPED: x modulo w, y modulo h;", "3 NOUGHT: the number 0."};
        for (int edge = HELD; edge <= NOUGHT; edge++) {
            says(5, words[edge]);
            for (int length : new int[] {1, 2, 3, 15, 16}) {
                int[] right = walked(length, edge, 1);
                int[] left = walked(length, edge, -1);
                for (int far = 0; far <= 1000; far++) {
                    if (far % 100 == 0) {
                        room = new DarkRoom();
                        lay(0, BYTES, length, rising(length, 1, 1));
                        lay(1, BYTES, 1, rising(length, 1, 1));
                    }
                    int ahead = edge == NOUGHT ? (far < length ? far + 1 : 0) : right[far] + 1;
                    int back = edge == NOUGHT ? (far == 0 ? 1 : 0) : left[far] + 1;
                    due(length + " wide, x = " + far, room.at(0, far, 0, edge), ahead);
                    due(length + " wide, x = -" + far, room.at(0, -far, 0, edge), back);
                    due(length + " high, y = " + far, room.at(1, 0, far, edge), ahead);
                    due(length + " high, y = -" + far, room.at(1, 0, -far, edge), back);
                }
            }
        }
        says(5, "3 NOUGHT: the number 0.");
        lay(0, SHORTS, 2, -5, -6, -7, -8);
        due("y alone beyond", room.at(0, 1, 2, NOUGHT), 0);
        due("x alone beyond", room.at(0, -1, 1, NOUGHT), 0);
        due("within", room.at(0, 1, 1, NOUGHT), -8);
    }

    private void at() {
        says(5, "PIXEL x, y, by an EDGE (0 to 3) also beyond (x, y from -1000 to 1000). BAD.");
        lay(0, BYTES, 3, 10, 20, 30, 40, 50, 60);
        int[][] far = {{-1000, -1000, 10, 30, 30, 0}, {1000, -1000, 30, 20, 20, 0}, {-1000, 1000, 40, 30, 30, 0},
            {1000, 1000, 60, 20, 20, 0}, {1000, 1, 60, 50, 50, 0}, {1, -1000, 20, 20, 20, 0}};
        for (int[] one : far) {
            for (int edge = HELD; edge <= NOUGHT; edge++) {
                due("at " + one[0] + ", " + one[1] + ", " + edge, room.at(0, one[0], one[1], edge), one[2 + edge]);
            }
        }
        refused(BAD, "at", AT, numbers(0, 1001, 0, 0), numbers(0, -1001, 0, 1), numbers(0, 0, 1001, 2),
                numbers(0, 0, -1001, 3), numbers(0, MAX, MIN, 3), numbers(0, 0, 0, -1), numbers(0, 0, 0, 4),
                numbers(0, 0, 0, MIN), numbers(-1, 0, 0, 0), numbers(8, 0, 0, 0), numbers(6, 0, 0, 3));
        noAct(20, "at", AT, 0, 1, 0, 0);
    }

    private void about() {
        says(6, "Of a PICTURE: 0 KIND (NONE: MISSING), 1 w, 2 h, 3 the least PIXEL, 4 the greatest, 5 their sum "
                + "(1 to 5 of a MISSING one: NONE). BAD.");
        int[][] told = {{SHORTS, 16, 16, -32768}, {SHORTS, 16, 16, 32767}, {BYTES, 16, 16, 255}, {BYTES, 1, 1, 255},
            {BYTES, 1, 1, 0}, {SHORTS, 1, 1, -32768}, {SHORTS, 1, 16, -1}, {BYTES, 16, 1, 1}};
        for (int[] one : told) {
            room = new DarkRoom();
            int many = one[1] * one[2];
            lay(7, one[0], one[1], alike(many, one[3]));
            int[] want = {one[0], one[1], one[2], one[3], one[3], many * one[3]};
            for (int what = 0; what <= 5; what++) {
                due(one[3] + " alone, " + what, room.about(7, what), want[what]);
                due("MISSING, " + what, room.about(6, what), NONE);
            }
        }
        room = new DarkRoom();
        lay(0, SHORTS, 3, -2, 9, -32768, 32767, 0, 3);
        due("least in the midst", room.about(0, 3), -32768);
        due("greatest in the midst", room.about(0, 4), 32767);
        due("sum", room.about(0, 5), 9);
        lay(0, SHORTS, 2, -9, -3, -4, -30);
        due("greatest below 0", room.about(0, 4), -3);
        due("least at the end", room.about(0, 3), -30);
        refused(BAD, "about", ABOUT, numbers(0, -1), numbers(0, 6), numbers(0, MIN), numbers(0, MAX), numbers(-1, 0),
                numbers(8, 0), numbers(6, 6), numbers(6, -1));
        noAct(3, "about", ABOUT, 0, 1);
        noAct(NONE, "about", ABOUT, 6, 0);
        noAct(NONE, "about", ABOUT, 7, 5);
    }

    private void convert() {
        says(7, "KEPT: a number below LEAST becomes that, one above GREATEST becomes that.");
        int[] shorts = {-32768, -256, -1, 0, 1, 254, 255, 256, 257, 32767};
        lay(0, SHORTS, 5, shorts);
        due("KEPT", room.convert(0, 7, BYTES, 0), 6);
        duePicture("KEPT", 7, BYTES, 5, 0, 0, 0, 0, 1, 254, 255, 255, 255, 255);
        duePicture("p stays", 0, SHORTS, 5, shorts);

        says(7, "PICTURE q becomes PICTURE p with another KIND, or the same: PIXELS KEPT (rule 0), or cut (1: to BYTES "
                + "their low 8 bits, to SHORTS as they are): how many PIXELS are others than those of p.");
        lay(0, SHORTS, 5, shorts);
        due("low 8 bits", room.convert(0, 1, BYTES, 1), 6);
        duePicture("low 8 bits", 1, BYTES, 5, 0, 0, 255, 0, 1, 254, 255, 0, 1, 255);
        for (int rule = 0; rule < 2; rule++) {
            due("SHORTS stay", room.convert(0, 2, SHORTS, rule), 0);
            duePicture("SHORTS stay", 2, SHORTS, 5, shorts);
            lay(3, BYTES, 4, 0, 127, 128, 255);
            due("BYTES stay", room.convert(3, 4, BYTES, rule), 0);
            duePicture("BYTES stay", 4, BYTES, 4, 0, 127, 128, 255);
            due("BYTES to SHORTS", room.convert(3, 5, SHORTS, rule), 0);
            duePicture("BYTES to SHORTS", 5, SHORTS, 4, 0, 127, 128, 255);
        }
        due("into itself", room.convert(0, 0, BYTES, 1), 6);
        duePicture("into itself", 0, BYTES, 5, 0, 0, 255, 0, 1, 254, 255, 0, 1, 255);
        room = new DarkRoom();
        lay(0, SHORTS, 16, alike(256, -1));
        due("all of the greatest size", room.convert(0, 1, BYTES, 0), 256);
        due("all of the greatest size", room.about(1, 5), 0);

        says(7, "BAD; NO: p is MISSING.");
        refused(BAD, "convert", CONVERT, numbers(-1, 0, 0, 0), numbers(8, 0, 0, 0), numbers(0, -1, 0, 0),
                numbers(0, 8, 0, 0), numbers(0, 1, -1, 0), numbers(0, 1, 2, 0), numbers(0, 1, 0, -1),
                numbers(0, 1, 0, 2), numbers(MIN, MAX, 0, 0));
        refused(BAD, "BAD is ahead of NO: convert", CONVERT, numbers(6, 8, 0, 0), numbers(6, 0, 2, 0),
                numbers(6, 0, 0, 2));
        refused(NO, "convert", CONVERT, numbers(6, 0, 0, 0), numbers(7, 7, 1, 1), numbers(7, 6, 0, 1));
    }

    private void cut() {
        says(8, "PICTURE q becomes the w by h PIXELS of p from x, y on, by an EDGE (x, y from -100 to 100; w, h from 1 to "
                + "16): 0.");
        int[] places = {-100, -99, -16, -1, 0, 1, 2, 3, 99, 100};
        int[][] sizes = {{1, 1}, {16, 1}, {1, 16}, {3, 2}};
        for (int x : places) {
            for (int y : places) {
                room = new DarkRoom();
                lay(0, SHORTS, 3, 10, -20, 30, 40, 50, -60);
                for (int i = 0; i < 16; i++) {
                    cutOut(x, y, sizes[i / 4][0], sizes[i / 4][1], i % 4);
                }
            }
        }
        room = new DarkRoom();
        lay(0, BYTES, 1, 7);
        due("the greatest size", room.cut(0, 7, -8, -8, 16, 16, HELD), 0);
        due("the greatest size", room.about(7, 5), 7 * 256);
        due("the greatest size", room.cut(0, 7, -8, -8, 16, 16, NOUGHT), 0);
        due("one PIXEL is within", room.about(7, 5), 7);
        due("it is there", room.at(7, 8, 8, HELD), 7);
        due("into itself", room.cut(7, 7, 8, 8, 2, 1, WRAPPED), 0);
        duePicture("into itself", 7, BYTES, 2, 7, 0);

        says(8, "BAD; NO: p is MISSING.");
        refused(BAD, "cut", CUT, numbers(-1, 0, 0, 0, 1, 1, 0), numbers(8, 0, 0, 0, 1, 1, 0),
                numbers(0, -1, 0, 0, 1, 1, 0), numbers(0, 8, 0, 0, 1, 1, 0), numbers(0, 1, -101, 0, 1, 1, 0),
                numbers(0, 1, 101, 0, 1, 1, 0), numbers(0, 1, 0, -101, 1, 1, 0), numbers(0, 1, 0, 101, 1, 1, 0),
                numbers(0, 1, 0, 0, 0, 1, 0), numbers(0, 1, 0, 0, 17, 1, 0), numbers(0, 1, 0, 0, 1, 0, 0),
                numbers(0, 1, 0, 0, 1, 17, 0), numbers(0, 1, 0, 0, 1, 1, -1), numbers(0, 1, 0, 0, 1, 1, 4),
                numbers(0, 1, MIN, MAX, MAX, MAX, 2), numbers(0, 0, 0, 0, MIN, MIN, 0));
        refused(BAD, "BAD is ahead of NO: cut", CUT, numbers(6, 0, 101, 0, 1, 1, 0), numbers(6, 0, 0, 0, 17, 1, 0),
                numbers(6, 0, 0, 0, 1, 1, 4), numbers(6, 8, 0, 0, 1, 1, 0));
        refused(NO, "cut", CUT, numbers(6, 0, 0, 0, 1, 1, 0), numbers(7, 7, -100, 100, 16, 16, 3));
    }

    private void cutOut(int x, int y, int w, int h, int edge) {
        String call = "cut " + x + ", " + y + ", " + w + ", " + h + ", " + edge;
        due(call, room.cut(0, 1, x, y, w, h, edge), 0);
        due(call + ": KIND", room.about(1, 0), SHORTS);
        due(call + ": w", room.about(1, 1), w);
        due(call + ": h", room.about(1, 2), h);
        int[][] seen = {{0, 0}, {w - 1, h - 1}, {w / 2, h / 2}, {w - 1, 0}, {0, h - 1}};
        for (int[] one : seen) {
            due(call + ": " + one[0] + ", " + one[1], room.at(1, one[0], one[1], NOUGHT),
                    room.at(0, x + one[0], y + one[1], edge));
        }
    }

    private static int[] mirrored(int[] pixels, int w) {
        int[] made = new int[pixels.length];
        for (int i = 0; i < pixels.length; i++) {
            made[i / w * w + w - 1 - i % w] = pixels[i];
        }
        return made;
    }

    /** The first row becomes the last column. */
    private static int[] quarter(int[] pixels, int w) {
        int h = pixels.length / w;
        int[] made = new int[pixels.length];
        for (int i = 0; i < pixels.length; i++) {
            made[i % w * h + h - 1 - i / w] = pixels[i];
        }
        return made;
    }

    private void turn() {
        says(9, "PICTURE q becomes p turned: how = 0 to 3 by quarters to the right, 4 to 7 likewise, mirrored (left for "
                + "right) ahead of that: 0.");
        int[][] sizes = {{1, 1}, {1, 16}, {16, 1}, {3, 2}, {2, 3}, {15, 16}};
        for (int[] size : sizes) {
            int[] pixels = rising(size[0] * size[1], -3, 1);
            for (int how = 0; how <= 7; how++) {
                int w = size[0];
                int[] want = how < 4 ? pixels : mirrored(pixels, w);
                for (int i = 0; i < how % 4; i++) {
                    want = quarter(want, w);
                    w = want.length / w;
                }
                room = new DarkRoom();
                lay(0, SHORTS, size[0], pixels);
                due(size[0] + " by " + size[1] + ", " + how, room.turn(0, 7, how), 0);
                duePicture(size[0] + " by " + size[1] + ", " + how, 7, SHORTS, w, want);
                due("p stays", room.about(0, 1), size[0]);
                due("into itself", room.turn(0, 0, how), 0);
                due("into itself", room.unlike(0, 7), 0);
            }
        }
        says(9, "BAD; NO: p is MISSING.");
        refused(BAD, "turn", TURN, numbers(0, 1, -1), numbers(0, 1, 8), numbers(0, 1, MIN), numbers(0, 1, MAX),
                numbers(-1, 0, 0), numbers(8, 0, 0), numbers(0, -1, 0), numbers(0, 8, 0));
        refused(BAD, "BAD is ahead of NO: turn", TURN, numbers(6, 0, 8), numbers(6, 8, 0), numbers(6, 0, -1));
        refused(NO, "turn", TURN, numbers(6, 0, 0), numbers(7, 7, 7));
    }

    private void unlike() {
        says(10, "How many PIXELS of two PICTURES are unlike. BAD; NO: one is MISSING, or unlike sizes.");
        lay(0, BYTES, 16, alike(256, 0));
        lay(1, SHORTS, 16, alike(256, -1));
        lay(2, SHORTS, 16, alike(256, 0));
        due("all", room.unlike(0, 1), 256);
        due("all", room.unlike(1, 0), 256);
        due("none, of unlike KINDS", room.unlike(0, 2), 0);
        due("with itself", room.unlike(1, 1), 0);
        room.put(2, 15, 15, 1);
        due("the last", room.unlike(0, 2), 1);
        room.put(2, 0, 0, 256);
        due("the first, alike in its low 8 bits", room.unlike(0, 2), 2);
        room.put(2, 0, 0, -256);
        due("the first, alike in its low 8 bits", room.unlike(2, 0), 2);
        refused(BAD, "unlike", UNLIKE, numbers(-1, 0), numbers(8, 0), numbers(0, -1), numbers(0, 8), numbers(MIN, MAX));
        refused(BAD, "BAD is ahead of NO: unlike", UNLIKE, numbers(6, 8), numbers(-1, 6));
        refused(NO, "unlike", UNLIKE, numbers(0, 6), numbers(6, 0), numbers(6, 6), numbers(6, 7), numbers(0, 1),
                numbers(2, 4), numbers(4, 2), numbers(3, 5), numbers(5, 3));
        noAct(0, "unlike", UNLIKE, 0, 0);
        lay(3, BYTES, 2, 1, 2, 3, 4, 5, 6);
        lay(4, BYTES, 3, 1, 2, 3, 4, 5, 6);
        due("as many PIXELS, but another size", room.unlike(3, 4), NO);
        lay(5, BYTES, 2, 1, 2, 3, 4);
        due("another h", room.unlike(3, 5), NO);
        lay(5, BYTES, 1, 1, 2, 3);
        due("another w", room.unlike(3, 5), NO);
    }
}
