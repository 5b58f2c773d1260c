import java.util.ArrayList;
import java.util.List;

/**
 * What other calls show of a room, in parts of some 300 calls each, so that a room that was made by some 200 calls and
 * shows one part stays within its 512. A part may change the room: each is for a room of its own.
 */
final class Sight {
    static final int MASKS_FROM = 8;
    static final int WEIGHTS = 14;
    static final int FILTERS = 15;
    static final int TAPE = 16;
    static final int ACTS = 17;
    static final int PARTS = 18;

    private Sight() {
    }

    static String name(int part) {
        if (part < MASKS_FROM) {
            return "picture " + part;
        }
        if (part < WEIGHTS) {
            return "mask " + (part - MASKS_FROM);
        }
        return new String[] {"the weights", "the filters at work", "the tape", "the acts"}[part - WEIGHTS];
    }

    static List<Integer> of(DarkRoom room, int part) {
        List<Integer> seen = new ArrayList<>();
        if (part < MASKS_FROM) {
            picture(room, part, seen);
        } else if (part < WEIGHTS) {
            mask(room, part - MASKS_FROM, seen);
        } else if (part == WEIGHTS) {
            weights(room, seen);
        } else if (part == FILTERS) {
            filters(room, seen);
        } else if (part == TAPE) {
            tape(room, seen);
        } else {
            acts(room, seen);
        }
        return seen;
    }

    private static void picture(DarkRoom room, int p, List<Integer> seen) {
        for (int what = 0; what < 6; what++) {
            seen.add(room.about(p, what));
        }
        seen.add(room.count(1));
        int w = room.about(p, 1);
        int h = room.about(p, 2);
        for (int i = 0; i < w * h && w > 0 && h > 0; i++) {
            seen.add(room.at(p, i % w, i / w, 3));
        }
    }

    private static void mask(DarkRoom room, int m, List<Integer> seen) {
        for (int i = 0; i < 256; i++) {
            seen.add(room.isOn(m, i % 16, i / 16));
        }
    }

    private static void weights(DarkRoom room, List<Integer> seen) {
        seen.add(room.count(0));
        for (int i = 0; i < 24 * 9; i++) {
            seen.add(room.weight(i / 9, i % 9, 0));
        }
    }

    private static void filters(DarkRoom room, List<Integer> seen) {
        room.picture(7, 1, 2, 2);
        room.feed(7, 0, 0, 0x0040_FF00_0003_0064L, 8);
        for (int f = 0; f < 24; f++) {
            int changed = room.apply(7, f, 1);
            seen.add(changed);
            for (int i = 0; i < 4; i++) {
                seen.add(room.at(7, i % 2, i / 2, 0));
            }
            if (changed >= 0) {
                room.undo();
            }
        }
    }

    private static void tape(DarkRoom room, List<Integer> seen) {
        seen.add(room.count(4));
        seen.add(room.read(7));
        picture(room, 7, seen);
    }

    private static void acts(DarkRoom room, List<Integer> seen) {
        seen.add(room.count(2));
        seen.add(room.count(3));
        int answer = 1;
        for (int i = 0; i < 17 && answer == 1; i++) {
            answer = room.redo();
            seen.add(answer);
            glance(room, seen);
        }
        answer = 1;
        for (int i = 0; i < 17 && answer == 1; i++) {
            answer = room.undo();
            seen.add(answer);
            glance(room, seen);
        }
    }

    private static void glance(DarkRoom room, List<Integer> seen) {
        for (int p = 0; p < 8; p++) {
            seen.add(room.about(p, 5));
        }
        seen.add(room.isOn(0, 1, 1));
        seen.add(room.isOn(0, 2, 1));
        seen.add(room.isOn(1, 1, 0));
        seen.add(room.isOn(5, 15, 15));
    }
}
