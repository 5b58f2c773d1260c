/** The bounds of the promises 27 to 29: acts that are taken back and done again, and what is counted. */
final class BoundsOfActs extends Bounds {
    private static final Call UNDO = (r, a) -> r.undo();
    private static final Call REDO = (r, a) -> r.redo();
    private static final Call COUNT = (r, a) -> r.count(a[0]);

    private final Scene scene = Scene.withTape();

    BoundsOfActs(Check check, Document document) {
        super(check, document);
    }

    void all() {
        calls();
        refusals();
        acts();
        actsOfNothing();
        worn();
        others();
        kept();
        undo();
        redo();
        tillAnother();
        count();
    }

    private void calls() {
        says(27, "An object is used for at most 512 calls after it has been made; what later calls answer is free.");
        room.picture(0, SHORTS, 1, 1);
        for (int call = 2; call <= 510; call++) {
            due("call " + call, room.put(0, 0, 0, call), call == 2 ? 0 : call - 1);
        }
        due("call 511", room.undo(), 1);
        due("call 512", room.at(0, 0, 0, HELD), 509);
    }

    private void refusals() {
        says(27, "BAD: a number is none that is told, there is no such thing. NO: not for this KIND, this size. FULL. Of "
                + "several the first; nothing changes then.");
        refused(BAD, "number and KIND: put", (r, a) -> r.put(0, 3, 0, 256), numbers());
        refused(BAD, "number and size: feed", (r, a) -> r.feed(0, 2, 1, -1L, 9), numbers());
        refused(BAD, "number and KIND: dither", (r, a) -> r.dither(1, 17), numbers());
        refused(BAD, "number and size: seamGoes", (r, a) -> r.seamGoes(3, 2), numbers());
        refused(BAD, "number and KIND: weight", (r, a) -> r.weight(0, 0, 1001), numbers());
        refused(NO, "KIND: put", (r, a) -> r.put(0, 2, 1, 256), numbers());
        refused(NO, "size: feed", (r, a) -> r.feed(0, 2, 1, -1L, 8), numbers());
        refused(NO, "KIND: dither", (r, a) -> r.dither(1, 16), numbers());
        refused(NO, "size: seamGoes", (r, a) -> r.seamGoes(3, 0), numbers());
        refused(NO, "KIND: weight", (r, a) -> r.weight(0, 0, 1000), numbers());
        for (int f = 0; f < 24; f++) {
            room.filter(0, f, 0);
        }
        due("FULL", room.filter(0, 100000, 0), FULL);
        due("number and FULL", room.filter(0, 100001, 0), BAD);
    }

    /** Done, the latest 14 acts and this one can be taken back, and none done again; taken back and done again, it shows. */
    private void dueAct(String name, int want, boolean changes, Call call) {
        DarkRoom made = scene.made();
        due(name, call.on(made, numbers()), want);
        due(name + ": to take back", made.count(2), 15);
        due(name + ": to do again", made.count(3), 0);
        due(name + ": redo", made.redo(), NO);
        due(name + ": undo", made.undo(), 1);
        due(name + ": to take back then", made.count(2), 14);
        due(name + ": to do again then", made.count(3), 1);
        Scene done = scene.then(r -> call.on(r, numbers()));
        Scene back = done.then(DarkRoom::undo);
        Scene again = back.then(DarkRoom::redo);
        due(name + ": changes something", done.unlike(scene, Sight.WEIGHTS).isEmpty() ? 0 : 1, changes ? 1 : 0);
        // THE TAPE is no PICTURE and no MASK; what is read from it stays read.
        dueLike(name + " taken back", back, scene, Sight.TAPE);
        dueLike(name + " done again", again, done, Sight.PARTS);
    }

    private void acts() {
        says(27, "ACTS are picture(), put(), feed(), convert(), cut(), turn(), apply(), mask(), maskOf(), maskBy(), fill(), "
                + "dither(), even(), seamGoes(), read() that are not refused,");
        dueAct("picture", 0, true, (r, a) -> r.picture(0, SHORTS, 16, 16));
        dueAct("picture, MISSING", 0, true, (r, a) -> r.picture(4, MISSING, 0, 0));
        dueAct("put", 11, true, (r, a) -> r.put(0, 0, 0, 12));
        dueAct("feed", 2, true, (r, a) -> r.feed(0, 1, 1, 0L, 2));
        dueAct("convert", 4, true, (r, a) -> r.convert(1, 1, BYTES, 0));
        dueAct("convert to a MISSING one", 0, true, (r, a) -> r.convert(0, 6, SHORTS, 1));
        dueAct("cut", 0, true, (r, a) -> r.cut(0, 1, -1, -1, 16, 16, MIRRORED));
        dueAct("turn", 0, true, (r, a) -> r.turn(0, 0, 1));
        dueAct("apply", 6, true, (r, a) -> r.apply(0, 6, HELD));
        dueAct("mask", 0, true, (r, a) -> r.mask(4, 0, 0, true));
        dueAct("maskOf", 256, true, (r, a) -> r.maskOf(0, 4, -5, 0));
        dueAct("maskBy", 255, true, (r, a) -> r.maskBy(5, 0, 3));
        dueAct("fill", 6, true, (r, a) -> r.fill(0, 0, 0, 49, 0));
        dueAct("dither", 6, true, (r, a) -> r.dither(0, 2));
        dueAct("even", 6, true, (r, a) -> r.even(0));
        dueAct("seamGoes", 2, true, (r, a) -> r.seamGoes(0, 0));
        dueAct("seamGoes, doubled", 4, true, (r, a) -> r.seamGoes(0, 1));
        dueAct("read", 2, true, (r, a) -> r.read(4));
        dueAct("read to a MISSING one", 2, true, (r, a) -> r.read(7));
    }

    private void actsOfNothing() {
        says(27, "whether they change something or not.");
        dueAct("picture", 0, false, (r, a) -> r.picture(5, SHORTS, 1, 1));
        dueAct("picture, MISSING", 0, false, (r, a) -> r.picture(6, MISSING, 1, 1));
        dueAct("put", 11, false, (r, a) -> r.put(0, 0, 0, 11));
        dueAct("feed", 1, false, (r, a) -> r.feed(0, 0, 0, 11L, 1));
        dueAct("convert", 0, false, (r, a) -> r.convert(0, 0, BYTES, 1));
        dueAct("cut", 0, false, (r, a) -> r.cut(0, 0, 0, 0, 3, 2, NOUGHT));
        dueAct("turn", 0, false, (r, a) -> r.turn(0, 0, 0));
        dueAct("apply", 0, false, (r, a) -> r.apply(5, 8, HELD));
        dueAct("mask", 1, false, (r, a) -> r.mask(0, 1, 1, true));
        dueAct("maskOf", 0, false, (r, a) -> r.maskOf(2, 0, 9, 8));
        dueAct("maskBy", 0, false, (r, a) -> r.maskBy(2, 3, 4));
        dueAct("fill", 1, false, (r, a) -> r.fill(0, 0, 0, 0, 11));
        dueAct("dither", 0, false, (r, a) -> r.dither(2, 2));
        dueAct("even", 0, false, (r, a) -> r.even(2));
        due("picture as on THE TAPE", room.picture(0, BYTES, 2, 1), 0);
        room.feed(0, 0, 0, 0x0809L, 2);
        for (int v : numbers(0, 2, 1, 1, 9, 1, 8)) {
            room.byteTo(v);
        }
        due("read", room.read(0), 2);
        due("read is an act", room.count(2), 3);
        due("read is taken back", room.undo(), 1);
        duePicture("read is taken back", 0, BYTES, 2, 9, 8);
    }

    private void worn() {
        says(27, "16 are kept;");
        Scene.Steps base = r -> {
            r.picture(0, BYTES, 3, 2);
            r.feed(0, 0, 0, 0x3C32281E140AL, 6);
            r.picture(1, SHORTS, 2, 2);
            r.feed(1, 0, 0, 0x7FFF_8000_FFFF_0102L, 8);
            r.filter(4, 2, 0);
            r.weight(0, 5, 1);
            r.filter(7, 1, 0);
            r.filter(8, 0, 1);
            for (int v : numbers(0, 2, 1, 1, 9, 1, 8)) {
                r.byteTo(v);
            }
        };
        Call[] acts = {(r, a) -> r.picture(2, BYTES, 16, 16), (r, a) -> r.picture(0, MISSING, 0, 0),
            (r, a) -> r.put(0, 0, 0, 1), (r, a) -> r.feed(0, 0, 0, 7L, 2), (r, a) -> r.convert(1, 2, BYTES, 0),
            (r, a) -> r.cut(0, 2, -3, -3, 16, 16, NOUGHT), (r, a) -> r.turn(0, 2, 5), (r, a) -> r.apply(0, 0, HELD),
            (r, a) -> r.apply(1, 1, HELD), (r, a) -> r.apply(1, 2, NOUGHT), (r, a) -> r.mask(0, 3, 3, true),
            (r, a) -> r.maskOf(1, 0, 20, 40), (r, a) -> r.maskBy(2, 1, 5), (r, a) -> r.maskBy(2, 1, 0),
            (r, a) -> r.fill(0, 0, 0, 10, 9), (r, a) -> r.dither(0, 3), (r, a) -> r.even(0),
            (r, a) -> r.seamGoes(0, 0), (r, a) -> r.seamGoes(0, 1), (r, a) -> r.read(1)};
        for (int i = 0; i < acts.length; i++) {
            Call act = acts[i];
            Scene unworn = new Scene(base);
            Scene worn = new Scene(Scene::wear).then(base);
            room = worn.made();
            due("act " + i, act.on(room, numbers()), act.on(unworn.made(), numbers()));
            due("act " + i + " after more acts than are kept", room.count(2), 16);
            dueLike("act " + i + " after more acts than are kept", worn.then(r -> act.on(r, numbers())),
                    unworn.then(r -> act.on(r, numbers())), Sight.ACTS);
        }
    }

    private void others() {
        says(28, "ACTS are picture(), put(), feed(), convert(), cut(), turn(), apply(), mask(), maskOf(), maskBy(), fill(), "
                + "dither(), even(), seamGoes(), read() that are not refused,");
        Call[] none = {(r, a) -> r.at(0, 0, 0, HELD), (r, a) -> r.about(0, 0), (r, a) -> r.unlike(0, 0),
            (r, a) -> r.filter(1, 0, 0), (r, a) -> r.weight(1, 4, 2), (r, a) -> r.weight(1, 8, 5),
            (r, a) -> r.isOn(0, 0, 0), (r, a) -> r.energy(0, 0, 0), (r, a) -> r.seam(0, 0), (r, a) -> r.runs(0, 0),
            (r, a) -> r.byteTo(0), (r, a) -> r.count(2)};
        for (int i = 0; i < none.length; i++) {
            DarkRoom made = scene.made();
            none[i].on(made, numbers());
            due("none: " + i, made.count(2), 14);
            due("none: " + i, made.count(3), 2);
            due("none: " + i + ", redo", made.redo(), 1);
            due("none: " + i + ", redo", made.at(1, 0, 0, HELD), -7);
            due("none: " + i + ", redo", made.redo(), 1);
            due("none: " + i + ", redo", made.isOn(0, 2, 1), 1);
            due("none: " + i + ", redo", made.redo(), NO);
        }
        room = scene.made();
        room.weight(1, 8, 5);
        room.filter(1, 0, 0);
        room.byteTo(77);
        for (int i = 0; i < 14; i++) {
            due("undo", room.undo(), 1);
        }
        due("WEIGHTS are not taken back", room.weight(1, 8, 0), 5);
        due("FILTERS are not taken back", room.count(0), 10);
        due("THE TAPE is not taken back", room.count(4), 8);
    }

    private void kept() {
        says(27, "16 are kept;");
        for (int acts = 1; acts <= 40; acts++) {
            room = new DarkRoom();
            room.picture(0, BYTES, 1, 1);
            for (int v = 1; v < acts; v++) {
                room.put(0, 0, 0, v);
            }
            int kept = Math.min(16, acts);
            due(acts + " acts", room.count(2), kept);
            for (int i = 1; i <= kept; i++) {
                due(acts + " acts, undo " + i, room.undo(), 1);
                due(acts + " acts, undo " + i, room.at(0, 0, 0, HELD), i == acts ? BAD : acts - 1 - i);
                due(acts + " acts, undo " + i, room.count(2), kept - i);
                due(acts + " acts, undo " + i, room.count(3), i);
            }
            due(acts + " acts, one more", room.undo(), NO);
            due(acts + " acts, one more", room.count(3), kept);
            for (int i = kept - 1; i >= 0; i--) {
                due(acts + " acts, redo", room.redo(), 1);
                due(acts + " acts, redo", room.at(0, 0, 0, HELD), acts - 1 - i);
                due(acts + " acts, redo", room.count(3), i);
            }
            due(acts + " acts, one more", room.redo(), NO);
            due(acts + " acts, one more", room.count(2), kept);
            due(acts + " acts, one more", room.at(0, 0, 0, HELD), acts - 1);
        }
    }

    private void undo() {
        says(27, "The latest act is taken back: 1. NO: there is none.");
        refusedIn(new Scene(r -> { }), NO, "a new object: undo", UNDO);
        refusedIn(new Scene(r -> {
            r.picture(0, BYTES, 1, 1);
            r.undo();
        }), NO, "one taken back: undo", UNDO);
        refusedIn(new Scene(BoundsOfActs::takenBack), NO, "16 of 17 taken back: undo", UNDO);
        refusedIn(new Scene(r -> r.put(0, 0, 0, 0)), NO, "a refused one is none: undo", UNDO);
        room.picture(0, BYTES, 2, 1);
        room.mask(0, 0, 0, true);
        room.put(0, 0, 0, 5);
        due("the latest", room.undo(), 1);
        due("the put", room.at(0, 0, 0, HELD), 0);
        due("the MASK stays", room.isOn(0, 0, 0), 1);
        due("the one ahead", room.undo(), 1);
        due("the MASK", room.isOn(0, 0, 0), 0);
        due("the PICTURE stays", room.about(0, 0), BYTES);
        due("the first", room.undo(), 1);
        due("the PICTURE", room.about(0, 0), NONE);
        due("none", room.undo(), NO);
    }

    /** 17 acts, of which the 16 that are kept are taken back. */
    private static void takenBack(DarkRoom room) {
        room.picture(0, BYTES, 1, 1);
        for (int v = 1; v <= 16; v++) {
            room.put(0, 0, 0, v);
        }
        for (int i = 0; i < 16; i++) {
            room.undo();
        }
    }

    private void redo() {
        says(28, "The act that was taken back last is done again: 1. NO: there is none.");
        refusedIn(new Scene(r -> { }), NO, "a new object: redo", REDO);
        refusedIn(new Scene(r -> r.picture(0, BYTES, 1, 1)), NO, "none taken back: redo", REDO);
        refusedIn(new Scene(r -> {
            takenBack(r);
            for (int i = 0; i < 16; i++) {
                r.redo();
            }
        }), NO, "all done again: redo", REDO);
        room.picture(0, BYTES, 1, 1);
        room.mask(5, 15, 15, true);
        room.put(0, 0, 0, 7);
        room.undo();
        room.undo();
        due("the last that was taken back", room.redo(), 1);
        due("the MASK", room.isOn(5, 15, 15), 1);
        due("not the put", room.at(0, 0, 0, HELD), 0);
        due("the other", room.redo(), 1);
        due("the put", room.at(0, 0, 0, HELD), 7);
        due("none", room.redo(), NO);
    }

    private void tillAnother() {
        says(28, "taken back, and done again, till another one comes.");
        takenBack(room);
        due("16 to do again", room.count(3), 16);
        due("refused: not another one", room.put(0, 0, 0, 256), NO);
        due("refused: not another one", room.picture(8, 0, 1, 1), BAD);
        due("16 to do again", room.count(3), 16);
        due("another one", room.put(0, 0, 0, 0), 0);
        due("none to do again", room.count(3), 0);
        due("none to do again", room.redo(), NO);
        due("one to take back", room.count(2), 1);
        due("it is taken back", room.undo(), 1);
        due("none is left", room.undo(), NO);
        due("it is done again", room.redo(), 1);
        room = new DarkRoom();
        room.picture(0, BYTES, 1, 1);
        for (int v = 1; v <= 30; v++) {
            room.put(0, 0, 0, v);
        }
        for (int i = 0; i < 5; i++) {
            room.undo();
        }
        for (int v = 100; v < 108; v++) {
            due("others", room.put(0, 0, 0, v), v == 100 ? 25 : v - 1);
            due("others", room.count(2), Math.min(16, v - 88));
        }
        int[] was = {106, 105, 104, 103, 102, 101, 100, 25, 24, 23, 22, 21, 20, 19, 18, 17};
        for (int v : was) {
            due("undo", room.undo(), 1);
            due("undo", room.at(0, 0, 0, HELD), v);
        }
        due("no 17th", room.undo(), NO);
    }

    private void count() {
        says(29, "How many: 0 FILTERS, 1 PICTURES that are not MISSING, 2 acts that can be taken back, 3 that can be done "
                + "again, 4 bytes of THE TAPE. BAD.");
        int[] want = {9, 6, 14, 2, 7};
        for (int what = 0; what <= 4; what++) {
            noAct(want[what], "count", COUNT, what);
            due("a new object", room.count(what), 0);
        }
        refused(BAD, "count", COUNT, numbers(-1), numbers(5), numbers(MIN), numbers(MAX));
        for (int p = 0; p < 8; p++) {
            room.picture(p, p % 2, 1, 1);
            due("PICTURES", room.count(1), p + 1);
        }
        due("again", room.picture(7, BYTES, 2, 2), 0);
        due("PICTURES", room.count(1), 8);
        for (int p = 7; p >= 0; p--) {
            room.picture(p, MISSING, 0, 0);
            due("PICTURES", room.count(1), p);
        }
        due("undo", room.undo(), 1);
        due("PICTURES", room.count(1), 1);
        for (int f = 0; f < 30; f++) {
            room.filter(0, 0, 0);
            due("FILTERS", room.count(0), Math.min(24, f + 1));
        }
    }
}
