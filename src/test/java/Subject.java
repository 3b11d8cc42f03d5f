import java.util.ArrayList;
import java.util.List;

/**
 * A CrowdFaces under test. It keeps the calls that changed it, so that it can be made again: for looks that
 * change it themselves, and because nothing is promised of an object after its 512th call.
 */
final class Subject {
    /** A call, or several, on an object. */
    interface Step {
        int on(CrowdFaces x);
    }

    private static final int MOST_CALLS = 512;
    /** So many calls are left for a look at an object that was made again. */
    private static final int CALLS_OF_A_LOOK = 170;

    private final List<Step> changes = new ArrayList<>();
    private CrowdFaces object = new CrowdFaces();
    private int calls = 0;
    private String looks = null;

    /** A subject that has loaded this film: no state is remembered, the text stays. */
    static Subject loaded(String film) {
        Subject x = new Subject();
        x.write(film);
        x.load();
        return x;
    }

    /** One extra, and so many scenes for it alone, each on its own story day. */
    static Subject alone(int... minutes) {
        Subject x = new Subject();
        x.extra(0, 0);
        for (int k = 0; k < minutes.length; k++) {
            x.scene(0, 1, k, 0, minutes[k]);
        }
        return x;
    }

    /** Makes this the text, whatever was there before. */
    void write(String text) {
        clearText();
        for (int k = 0; k < text.length(); k++) {
            append(text.charAt(k));
        }
    }

    /** A new object with all changes so far, and these calls behind them. */
    CrowdFaces again(Step... behind) {
        if (changes.size() > MOST_CALLS - CALLS_OF_A_LOOK) {
            throw new AssertionError("a test makes too many calls on one object");
        }
        CrowdFaces made = new CrowdFaces();
        for (Step change : changes) {
            change.on(made);
        }
        for (Step step : behind) {
            step.on(made);
        }
        return made;
    }

    /** All that can be told of it. */
    String looks() {
        if (looks == null) {
            looks = Looks.all(this);
        }
        return looks;
    }

    /** A call that should change nothing, or should throw. */
    int ask(Step step) {
        if (calls == MOST_CALLS) {
            object = again();
            calls = changes.size();
        }
        calls++;
        return step.on(object);
    }

    int change(Step step) {
        int answer = ask(step);
        changes.add(step);
        looks = null;
        return answer;
    }

    // ---- the public face

    int append(int c) {
        return change(o -> o.append(c));
    }

    int clearText() {
        return change(o -> o.clearText());
    }

    int errorPosition() {
        return ask(o -> o.errorPosition());
    }

    int load() {
        return change(o -> o.load());
    }

    int about(int what) {
        return ask(o -> o.about(what));
    }

    int extraOf(int e, int what) {
        return ask(o -> o.extraOf(e, what));
    }

    int sceneOf(int s, int what) {
        return ask(o -> o.sceneOf(s, what));
    }

    int setting(int what) {
        return ask(o -> o.setting(what));
    }

    int extra(int look, int face) {
        return change(o -> o.extra(look, face));
    }

    int scene(int look, int many, int day, int place, int minutes) {
        return change(o -> o.scene(look, many, day, place, minutes));
    }

    int shoot(int s) {
        return change(o -> o.shoot(s));
    }

    int replace(int s, int a, int b) {
        return change(o -> o.replace(s, a, b));
    }

    int meal() {
        return change(o -> o.meal());
    }

    int nextDay() {
        return change(o -> o.nextDay());
    }

    int set(int what, int v) {
        return change(o -> o.set(what, v));
    }

    int undo() {
        return change(o -> o.undo());
    }

    int would(int s, int what) {
        return ask(o -> o.would(s, what));
    }

    int why(int s, int e) {
        return ask(o -> o.why(s, e));
    }

    int cheapest() {
        return ask(o -> o.cheapest());
    }

    int lacks(int s) {
        return ask(o -> o.lacks(s));
    }

    int order(int a, int b) {
        return ask(o -> o.order(a, b));
    }

    int runScript(int n, long script) {
        return ask(o -> o.runScript(n, script));
    }

    int simulate(long seed, int m) {
        return ask(o -> o.simulate(seed, m));
    }

    int save(int slot) {
        return change(o -> o.save(slot));
    }

    int restore(int slot) {
        return change(o -> o.restore(slot));
    }
}
