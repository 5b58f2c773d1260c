import java.util.ArrayList;
import java.util.List;

/** A run of calls that makes a room, again and again the same, and all that other calls show of it. */
final class Scene {
    interface Steps {
        void on(DarkRoom room);
    }

    private final Steps steps;
    private final List<List<Integer>> shown = new ArrayList<>();

    Scene(Steps steps) {
        this.steps = steps;
        for (int part = 0; part < Sight.PARTS; part++) {
            shown.add(Sight.of(made(), part));
        }
    }

    DarkRoom made() {
        DarkRoom room = new DarkRoom();
        steps.on(room);
        return room;
    }

    Scene then(Steps more) {
        return new Scene(room -> {
            steps.on(room);
            more.on(room);
        });
    }

    /** The parts, up to but not with the last one named, that another scene shows otherwise; empty if none. */
    String unlike(Scene other, int parts) {
        StringBuilder names = new StringBuilder();
        for (int part = 0; part < parts; part++) {
            if (!shown.get(part).equals(other.shown.get(part))) {
                names.append(names.length() == 0 ? "" : ", ").append(Sight.name(part));
            }
        }
        return names.toString();
    }

    /**
     * Leaves a room as it is, but for its acts: more of them than are kept have been made, of the greatest pictures
     * without a 0 and of masks that are ON all over, so that nothing that the room uses again is empty.
     */
    static void wear(DarkRoom room) {
        room.picture(7, 1, 16, 16);
        for (int i = 1; i <= 18; i++) {
            room.fill(7, 0, 0, 0, -i);
        }
        for (int i = 0; i < 18; i++) {
            room.maskBy(5, 4, 3);
        }
        room.picture(7, -1, 0, 0);
        room.maskBy(5, 4, 4);
    }

    /** A room with pictures of both kinds and of the least and greatest sides, and with something of all that can change. */
    static Scene furnished() {
        return new Scene(room -> {
            layPictures(room);
            layFilters(room);
            room.mask(0, 1, 1, true);
            room.mask(5, 15, 15, true);
            room.maskOf(1, 0, 20, 40);
            // 14 acts so far; with these it is one more than are kept, and two of them can be done again.
            room.put(0, 0, 0, 11);
            room.put(1, 0, 0, -7);
            room.mask(0, 2, 1, true);
            room.undo();
            room.undo();
        });
    }

    /** Furnished, with the runs of a picture, 9 and 8 beside it, on the tape. */
    static Scene withTape() {
        return furnished().then(room -> {
            for (int v : new int[] {0, 2, 1, 1, 9, 1, 8}) {
                room.byteTo(v);
            }
        });
    }

    /** Pictures 6 and 7 stay missing. */
    private static void layPictures(DarkRoom room) {
        room.picture(0, 0, 3, 2);
        room.feed(0, 0, 0, 0x3C32281E140AL, 6);
        room.picture(1, 1, 2, 2);
        room.feed(1, 0, 0, 0x7FFF_8000_FFFF_0102L, 8);
        room.picture(2, 0, 16, 2);
        room.feed(2, 3, 0, 0xFF00_0000_FFFF_00FFL, 8);
        room.picture(3, 0, 1, 3);
        room.put(3, 0, 1, 77);
        room.picture(4, 1, 16, 16);
        room.put(4, 15, 15, -5);
        room.picture(5, 1, 1, 1);
    }

    /** ADD, SQUARE, THEN (2 high), WHERE (3), BOTH (4), RANK, TURN, STEP, TIMES. */
    private static void layFilters(DarkRoom room) {
        room.filter(0, 7, 0);
        room.filter(4, 3, 0);
        room.weight(1, 4, 2);
        room.weight(1, 0, -1);
        room.filter(6, 0, 1);
        room.filter(7, 0, 2);
        room.filter(8, 3, 0);
        room.filter(5, 4, 0);
        room.filter(1, 0, 0);
        room.filter(2, 20, 0);
        room.filter(3, -3, 2);
    }
}
