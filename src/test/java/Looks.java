/** All that the calls that change nothing tell of an object, as one text. */
final class Looks {
    private Looks() {
    }

    static String of(CrowdFaces x) {
        StringBuilder told = new StringBuilder();
        int extras = x.about(0);
        int scenes = x.about(1);
        for (int what = 0; what <= 8; what++) {
            told.append(x.about(what)).append(' ');
        }
        told.append("settings");
        for (int what = 0; what <= 2; what++) {
            told.append(' ').append(x.setting(what));
        }
        for (int e = 0; e < extras; e++) {
            told.append(" | e");
            for (int what = 0; what <= 6; what++) {
                told.append(' ').append(x.extraOf(e, what));
            }
        }
        for (int s = 0; s < scenes; s++) {
            scene(told, x, s, extras);
        }
        told.append(" | ").append(x.cheapest()).append(' ').append(x.errorPosition());
        return told.toString();
    }

    private static void scene(StringBuilder told, CrowdFaces x, int s, int extras) {
        told.append(" | s");
        for (int what = 0; what <= 8; what++) {
            told.append(' ').append(x.sceneOf(s, what));
        }
        told.append(" would");
        for (int what = 0; what <= 3; what++) {
            told.append(' ').append(x.would(s, what));
        }
        told.append(" why");
        for (int e = 0; e < extras; e++) {
            told.append(' ').append(x.why(s, e));
        }
        told.append(" lacks ").append(x.lacks(s));
    }
}
