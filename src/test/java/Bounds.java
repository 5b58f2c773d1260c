/** What the tests of the document's bounds have in common: a cited sentence, a room, and what is due there. */
abstract class Bounds {
    static final int BAD = DarkRoom.BAD, NO = DarkRoom.NO, FULL = DarkRoom.FULL, NONE = DarkRoom.NONE;
    static final int MIN = Integer.MIN_VALUE, MAX = Integer.MAX_VALUE;
    static final int BYTES = 0, SHORTS = 1, MISSING = -1;
    static final int HELD = 0, MIRRORED = 1, WRAPPED = 2, NOUGHT = 3;

    /** A call that is told its numbers. */
    interface Call {
        int on(DarkRoom room, int[] told);
    }

    private final Check check;
    private final Document document;
    private final Scene withTape = Scene.withTape();
    private String part = "";
    DarkRoom room = new DarkRoom();

    Bounds(Check check, Document document) {
        this.check = check;
        this.document = document;
    }

    /** From here on a new room is held against these words. */
    final void says(int promise, String words) {
        part = "promise " + promise + " \"" + words + "\"";
        check.holds(part + " stands in the document", document.cites(promise, words));
        room = new DarkRoom();
    }

    final void due(String call, long got, long want) {
        check.due(part + ": " + call, got, want);
    }

    final void dueLike(String call, Scene one, Scene other, int parts) {
        String unlike = one.unlike(other, parts);
        check.holds(part + ": " + call + " shows otherwise " + unlike, unlike.isEmpty());
    }

    /** A picture of a kind and width with these pixels, row by row. */
    final void lay(int p, int kind, int w, int... pixels) {
        room.picture(p, kind, w, pixels.length / w);
        int step = kind == BYTES ? 8 : 4;
        for (int i = 0; i < pixels.length; i += step) {
            int many = Math.min(step, pixels.length - i);
            long word = 0;
            for (int k = 0; k < many; k++) {
                word |= (pixels[i + k] & (kind == BYTES ? 0xFFL : 0xFFFFL)) << 64 / step * k;
            }
            room.feed(p, i % w, i / w, word, many * 8 / step);
        }
    }

    final void duePicture(String call, int p, int kind, int w, int... pixels) {
        due(call + ": kind", room.about(p, 0), kind);
        due(call + ": w", room.about(p, 1), w);
        due(call + ": h", room.about(p, 2), pixels.length / w);
        for (int i = 0; i < pixels.length; i++) {
            due(call + ": pixel " + i % w + ", " + i / w, room.at(p, i % w, i / w, HELD), pixels[i]);
        }
    }

    /** In a furnished room each of these is answered so, and the room then shows what it shows without the call. */
    final void refused(int want, String name, Call call, int[]... told) {
        for (int[] numbers : told) {
            refusedIn(withTape, want, name, call, numbers);
        }
    }

    /** A call that is no act and is answered, but leaves all as it is. */
    final void noAct(int want, String name, Call call, int... told) {
        refusedIn(withTape, want, name, call, told);
    }

    final void refusedIn(Scene scene, int want, String name, Call call, int... told) {
        String text = name + java.util.Arrays.toString(told);
        due(text, call.on(scene.made(), told), want);
        dueLike("after " + text + " the room", scene, scene.then(room -> call.on(room, told)), Sight.PARTS);
    }

    static int[] numbers(int... told) {
        return told;
    }

    /** As many pixels as a picture of 16 by 16 has, from first on, each by step more. */
    static int[] rising(int many, int first, int step) {
        int[] pixels = new int[many];
        for (int i = 0; i < many; i++) {
            pixels[i] = first + i * step;
        }
        return pixels;
    }

    static int[] alike(int many, int v) {
        return rising(many, v, 0);
    }

    static int changes(int[] from, int[] to) {
        int n = 0;
        for (int i = 0; i < from.length; i++) {
            n += from[i] == to[i] ? 0 : 1;
        }
        return n;
    }
}
