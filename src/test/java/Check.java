import java.util.function.IntFunction;

/** Counts the answers that are not due; a test's main method ends with finish. */
final class Check {
    static final Class<IllegalArgumentException> ARGUMENT = IllegalArgumentException.class;
    static final Class<IllegalStateException> STATE = IllegalStateException.class;
    static final Class<IndexOutOfBoundsException> INDEX = IndexOutOfBoundsException.class;
    static final int NONE = -1;

    private static final int MOST_TOLD = 30;

    private static int checked = 0;
    private static int wrong = 0;
    private static String sentence = "";

    interface Call {
        int run();
    }

    private Check() {
    }

    /** The sentence of the document that the answers from here on are due to. */
    static void sentence(String told) {
        sentence = told;
    }

    static void same(String name, long got, long due) {
        checked++;
        if (got != due) {
            tell(name + " answered " + got + ", due is " + due);
        }
    }

    static void same(String name, String got, String due) {
        checked++;
        if (!got.equals(due)) {
            tell(name + "\n  was " + got + "\n  due " + due);
        }
    }

    static void abouts(Subject x, int... due) {
        for (int what = 0; what < due.length; what++) {
            same("about(" + what + ")", x.about(what), due[what]);
        }
    }

    static void extraIs(Subject x, int e, int... due) {
        for (int what = 0; what < due.length; what++) {
            same("extraOf(" + e + ", " + what + ")", x.extraOf(e, what), due[what]);
        }
    }

    static void sceneIs(Subject x, int s, int... due) {
        for (int what = 0; what < due.length; what++) {
            same("sceneOf(" + s + ", " + what + ")", x.sceneOf(s, what), due[what]);
        }
    }

    static void wouldBe(Subject x, int s, int... due) {
        for (int what = 0; what < due.length; what++) {
            same("would(" + s + ", " + what + ")", x.would(s, what), due[what]);
        }
    }

    /** The call throws exactly this exception, and nothing that can be told of the subject changes. */
    static void refuses(String name, Subject x, Class<? extends RuntimeException> due, Subject.Step step) {
        same(name, answer(() -> x.ask(step)), due.getSimpleName());
        same(name + " changes nothing", Looks.all(x, o -> tried(o, step)), x.looks());
    }

    /** The call answers so, and nothing that can be told of the subject changes. */
    static void leaves(String name, Subject x, int due, Subject.Step step) {
        same(name, answer(() -> x.ask(step)), Integer.toString(due));
        same(name + " changes nothing", Looks.all(x, step), x.looks());
    }

    /** The call is an action: one state more is remembered, and undo takes back just this call. */
    static void acts(String name, Subject x, Subject.Step step) {
        int before = remembered(x);
        same(name + ": states remembered", remembered(x, step), before + 1);
        same(name + ", then undo", answer(x.again(step), o -> o.undo()), Integer.toString(before));
        same(name + ", then undo, leaves all as it was", Looks.all(x, step, o -> o.undo()), x.looks());
    }

    /** How often undo answers. */
    static int remembered(Subject x, Subject.Step... behind) {
        CrowdFaces made = x.again(behind);
        int count = 0;
        while (count < 100 && !answer(made, o -> o.undo()).endsWith("Exception")) {
            count++;
        }
        return count;
    }

    /** Numbers at the bounds and next to them: those in range answer, the others are refused. */
    static void range(String name, Subject x, Class<? extends RuntimeException> due, int least, int most,
            IntFunction<Subject.Step> call) {
        for (int v : new int[] {least, least + 1, most - 1, most}) {
            if (v >= least && v <= most) {
                String answer = answer(x.again(), call.apply(v));
                same(name + " takes " + v, answer.endsWith("Exception") ? answer : "an answer", "an answer");
            }
        }
        for (int v : new int[] {least - 1, most + 1, Integer.MIN_VALUE, Integer.MAX_VALUE, wrapped(least),
            wrapped(most)}) {
            refuses(name + " with " + v, x, due, call.apply(v));
        }
    }

    /** Out of range, but the same number again in its lowest bits, by which a shift or a narrow type would take it. */
    private static int wrapped(int v) {
        return v + 65536;
    }

    static String answer(Call call) {
        try {
            return Integer.toString(call.run());
        } catch (RuntimeException e) {
            return e.getClass().getSimpleName();
        }
    }

    static String answer(CrowdFaces made, Subject.Step step) {
        return answer(() -> step.on(made));
    }

    private static int tried(CrowdFaces made, Subject.Step step) {
        return answer(made, step).length();
    }

    static void tell(String what) {
        wrong++;
        if (wrong <= MOST_TOLD) {
            if (!sentence.isEmpty()) {
                System.out.println("\"" + sentence + "\"");
                sentence = "";
            }
            System.out.println(what);
        }
    }

    static void finish() {
        System.out.println(checked + " answers, " + wrong + " of them wrong");
        if (wrong != 0) {
            System.exit(1);
        }
    }
}
