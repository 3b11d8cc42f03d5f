import java.util.Arrays;

/** What the calls tell of a subject, as one text. Each part is asked of an object that was made anew. */
final class Looks {
    private static final int SCENES_AT_ONCE = 5;

    private Looks() {
    }

    /** The state alone: what the calls that change nothing tell. */
    static String of(Subject x, Subject.Step... behind) {
        StringBuilder told = new StringBuilder();
        CrowdFaces made = x.again(behind);
        int extras = made.about(0);
        int scenes = made.about(1);
        numbers(told, made, extras);
        for (int from = 0; from < scenes; from += SCENES_AT_ONCE) {
            CrowdFaces another = x.again(behind);
            for (int s = from; s < scenes && s < from + SCENES_AT_ONCE; s++) {
                scene(told, another, s, extras);
            }
        }
        return told.toString();
    }

    /** The state, the text, all states that are remembered, and both save slots. */
    static String all(Subject x, Subject.Step... behind) {
        StringBuilder told = new StringBuilder("now: ").append(of(x, behind));
        CrowdFaces made = x.again(behind);
        told.append("\n  text: ").append(made.errorPosition()).append(' ').append(made.clearText());
        behind(told, "load", x, behind, o -> o.load());
        boolean more = true;
        for (int k = 1; k <= 15 && more; k++) {
            int times = k;
            more = behind(told, "undo " + k, x, behind, o -> undoOften(o, times));
        }
        behind(told, "restore(0)", x, behind, o -> o.restore(0));
        behind(told, "restore(1)", x, behind, o -> o.restore(1));
        return told.toString();
    }

    private static int undoOften(CrowdFaces o, int times) {
        int left = 0;
        for (int k = 0; k < times; k++) {
            left = o.undo();
        }
        return left;
    }

    private static boolean behind(StringBuilder told, String name, Subject x, Subject.Step[] before,
            Subject.Step last) {
        String answer = Check.answer(x.again(before), last);
        told.append("\n  ").append(name).append(": ").append(answer);
        boolean answers = !answer.endsWith("Exception");
        if (answers) {
            Subject.Step[] steps = Arrays.copyOf(before, before.length + 1);
            steps[before.length] = last;
            told.append(" and then ").append(of(x, steps));
        }
        return answers;
    }

    private static void numbers(StringBuilder told, CrowdFaces x, int extras) {
        for (int what = 0; what <= 8; what++) {
            told.append(x.about(what)).append(' ');
        }
        told.append("settings");
        for (int what = 0; what <= 2; what++) {
            told.append(' ').append(x.setting(what));
        }
        told.append(" cheapest ").append(x.cheapest());
        told.append(" simulate ").append(x.simulate(1L, 60)).append(' ').append(x.simulate(3L, 60));
        for (int e = 0; e < extras; e++) {
            told.append(" | e");
            for (int what = 0; what <= 6; what++) {
                told.append(' ').append(x.extraOf(e, what));
            }
        }
    }

    private static void scene(StringBuilder told, CrowdFaces x, int s, int extras) {
        told.append(" | s");
        for (int what = 0; what <= 8; what++) {
            told.append(' ').append(x.sceneOf(s, what));
        }
        told.append(" would");
        for (int what = 0; what <= 3; what++) {
            told.append(' ').append(x.would(s, what));
        }
        told.append(" why");
        for (int e = 0; e < extras; e++) {
            told.append(' ').append(x.why(s, e));
        }
        told.append(" lacks ").append(x.lacks(s));
    }
}
