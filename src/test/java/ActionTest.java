/** The sentences on actions, undo and exceptions, and promises 10 to 17: each at its bounds. */
public final class ActionTest {
    private static final Class<IllegalArgumentException> ARGUMENT = Check.ARGUMENT;
    private static final Class<IllegalStateException> STATE = Check.STATE;
    private static final Class<IndexOutOfBoundsException> INDEX = Check.INDEX;
    private static final int NONE = CrowdFaces.NONE;
    private static final int FAR_BELOW = Integer.MIN_VALUE;
    private static final int FAR_ABOVE = Integer.MAX_VALUE;

    private ActionTest() {
    }

    public static void main(String[] args) {
        whatIsAnAction();
        alsoIfNothingBecomesDifferent();
        undoIsNone();
        whatIsNoAction();
        stateWithoutTextAndSlots();
        atMost14Remembered();
        oldestIsForgotten();
        undoneAndDoneAgain();
        statesStillRemembered();
        noneIsRemembered();
        undoOfEachAction();
        refusedCallsRememberNothing();
        firstNamedException();
        refusedCallsChangeNothing();
        extra();
        scene();
        shootThrows();
        shootReturns();
        replaceIndexes();
        replaceStates();
        replaceLeaves();
        replaceFaces();
        mealReturns();
        mealResets();
        nextDayReturns();
        nextDayResets();
        set();
        Check.finish();
    }

    /** Scene 0 is shot with extras 0 and 1, scene 1 at another place with extra 2; scenes 2 and 3 can be shot. */
    private static Subject film() {
        return Subject.loaded("Fe000e001e002e000e103s0200240s0101200s0210150s1120061g0g1");
    }

    /** A film with a text, 14 remembered states and both slots filled, full of extras and scenes. */
    private static Subject full() {
        Subject x = film();
        x.save(1);
        for (int e = 5; e < 14; e++) {
            x.extra(e % 5, e);
        }
        for (int s = 4; s < 10; s++) {
            x.scene(s % 3, 1 + s % 2, s % 3, s % 4, 10 * s);
        }
        x.shoot(3);
        x.save(0);
        x.set(1, 11);
        x.meal();
        x.write("Fe00");
        return x;
    }

    // ---- actions and undo

    private static void whatIsAnAction() {
        Check.sentence("Each call of one of them that does not throw an exception is an action");
        Check.acts("extra", film(), o -> o.extra(4, 13));
        Check.acts("scene", film(), o -> o.scene(4, 6, 9, 3, 240));
        Check.acts("shoot", film(), o -> o.shoot(2));
        Check.acts("replace", film(), o -> o.replace(0, 0, 3));
        Check.acts("meal", film(), o -> o.meal());
        Check.acts("nextDay", film(), o -> o.nextDay());
        Check.acts("set(0, ..)", film(), o -> o.set(0, 960));
        Check.acts("set(1, ..)", film(), o -> o.set(1, 99));
        Check.acts("set(2, ..)", film(), o -> o.set(2, 99));
        Check.acts("extra in a new film", new Subject(), o -> o.extra(0, 0));
        Check.acts("scene in a new film", new Subject(), o -> o.scene(0, 1, 0, 0, 10));
    }

    private static void alsoIfNothingBecomesDifferent() {
        Check.sentence("also if nothing becomes different");
        Check.acts("a meal in a new film", new Subject(), o -> o.meal());
        Check.acts("the day as it was", new Subject(), o -> o.set(0, 600));
        Check.acts("the wage as it was", new Subject(), o -> o.set(1, 10));
        Check.acts("a penalty as it was", new Subject(), o -> o.set(2, 5));
        Subject x = film();
        x.meal();
        Check.acts("a second meal", x, o -> o.meal());
        Subject y = new Subject();
        y.set(1, 20);
        for (int k = 0; k < 14; k++) {
            y.meal();
        }
        for (int k = 13; k >= 0; k--) {
            Check.same("undo of a meal", y.undo(), k);
            Check.same("the wage is older", y.setting(1), 20);
        }
        Check.refuses("the wage is forgotten", y, STATE, o -> o.undo());
    }

    private static void undoIsNone() {
        Check.sentence("(undo is none)");
        Subject x = new Subject();
        for (int k = 1; k <= 5; k++) {
            x.set(1, 20 + k);
        }
        for (int k = 4; k >= 0; k--) {
            Check.same("undo", x.undo(), k);
            Check.same("remembered", Check.remembered(x), k);
            Check.same("the wage", x.setting(1), k == 0 ? 10 : 20 + k);
        }
        Check.refuses("undo is not taken back", x, STATE, o -> o.undo());
    }

    private static void whatIsNoAction() {
        Check.sentence("The methods in the section \"actions\" change the state");
        Subject x = film();
        x.set(1, 20);
        x.nextDay();
        Subject.Step[] calls = {o -> o.append('m'), o -> o.clearText(), o -> o.errorPosition(), o -> o.about(0),
            o -> o.extraOf(0, 0), o -> o.sceneOf(0, 0), o -> o.setting(0), o -> o.would(2, 0), o -> o.why(2, 0),
            o -> o.cheapest(), o -> o.lacks(2), o -> o.order(2, 3), o -> o.runScript(2, 1200030000L),
            o -> o.simulate(1L, 60), o -> o.save(0), o -> o.save(1)};
        String state = Looks.of(x);
        for (int k = 0; k < calls.length; k++) {
            Check.same("remembered behind call " + k, Check.remembered(x, calls[k]), 2);
            Check.same("the state behind call " + k, Looks.of(x, calls[k]), state);
            Check.same("undo behind call " + k, Looks.of(x, calls[k], o -> o.undo()), Looks.of(x, o -> o.undo()));
        }
        Check.sentence("load and restore are not actions.");
        x.save(0);
        Check.same("remembered behind load", Check.remembered(x, o -> o.load()), 0);
        Check.same("remembered behind restore", Check.remembered(x, o -> o.restore(0)), 0);
    }

    private static void stateWithoutTextAndSlots() {
        Check.sentence("the state, which consists of everything but the text and the save slots");
        Subject x = film();
        x.clearText();
        x.set(1, 20);
        x.save(0);
        x.append('F');
        x.nextDay();
        x.save(1);
        x.append('n');
        Check.same("undo", x.undo(), 1);
        Check.same("undo", x.undo(), 0);
        Check.same("the text stays", x.errorPosition(), NONE);
        Check.same("days", x.about(3), 0);
        Check.same("the wage", x.setting(1), 10);
        Check.same("slot 1 stays", x.restore(1), 2);
        Check.same("days of slot 1", x.about(3), 1);
        Check.same("slot 0 stays", x.restore(0), 2);
        Check.same("days of slot 0", x.about(3), 0);
        Check.same("the wage of slot 0", x.setting(1), 20);
        Check.same("the text stays", x.clearText(), 2);
    }

    private static void atMost14Remembered() {
        Check.sentence("At most 14 states are remembered");
        for (int actions : new int[] {0, 1, 2, 12, 13, 14, 15, 16, 27, 28, 29, 30, 42, 43}) {
            Subject x = new Subject();
            for (int k = 1; k <= actions; k++) {
                x.set(1, 30 + k);
            }
            int due = Math.min(actions, 14);
            Check.same("remembered of " + actions, Check.remembered(x), due);
            for (int k = 1; k <= due; k++) {
                Check.same(actions + " actions, undo " + k, x.undo(), due - k);
                int before = actions - k;
                Check.same("the wage then", x.setting(1), before == 0 ? 10 : 30 + before);
            }
            Check.refuses("no more of " + actions, x, STATE, o -> o.undo());
        }
    }

    private static void oldestIsForgotten() {
        Check.sentence("when one more is remembered, the oldest one is forgotten");
        Subject.Step[] last = {o -> o.extra(1, 1), o -> o.scene(1, 1, 1, 1, 10), o -> o.shoot(2),
            o -> o.replace(0, 0, 3), o -> o.meal(), o -> o.nextDay(), o -> o.set(2, 6)};
        for (int k = 0; k < last.length; k++) {
            Subject x = film();
            for (int d = 0; d < 14; d++) {
                x.set(1, 20 + d);
            }
            Check.same("14 before action " + k, Check.remembered(x), 14);
            x.change(last[k]);
            Check.same("14 behind action " + k, Check.remembered(x), 14);
            for (int d = 13; d >= 0; d--) {
                Check.same("undo", x.undo(), d);
                Check.same("the wage", x.setting(1), 20 + d);
            }
            Check.refuses("the one with the wage of 10", x, STATE, o -> o.undo());
        }
    }

    private static void undoneAndDoneAgain() {
        Check.sentence("At most 14 states are remembered; when one more is remembered, the oldest one is forgotten.");
        Subject x = new Subject();
        for (int k = 1; k <= 14; k++) {
            x.set(1, k);
        }
        for (int k = 13; k >= 11; k--) {
            Check.same("undo", x.undo(), k);
        }
        Check.same("the wage", x.setting(1), 11);
        for (int k = 1; k <= 5; k++) {
            x.set(1, 50 + k);
            Check.same("remembered", Check.remembered(x), Math.min(11 + k, 14));
        }
        int[] wages = {54, 53, 52, 51, 11, 10, 9, 8, 7, 6, 5, 4, 3, 2};
        for (int k = 0; k < 14; k++) {
            Check.same("undo", x.undo(), 13 - k);
            Check.same("the wage", x.setting(1), wages[k]);
        }
        Check.refuses("two are forgotten", x, STATE, o -> o.undo());
        x.set(1, 77);
        Check.same("from the start", x.undo(), 0);
        Check.same("the wage", x.setting(1), 2);
    }

    private static void noneIsRemembered() {
        Check.sentence("Throws IllegalStateException if none is remembered");
        Check.refuses("a new film", new Subject(), STATE, o -> o.undo());
        Check.refuses("a film that was loaded", film(), STATE, o -> o.undo());
        Subject x = new Subject();
        x.save(0);
        x.append('F');
        Check.refuses("no action so far", x, STATE, o -> o.undo());
        x.meal();
        x.undo();
        Check.refuses("taken back", x, STATE, o -> o.undo());
        x.meal();
        x.restore(0);
        Check.refuses("restored", x, STATE, o -> o.undo());
        x.meal();
        x.load();
        Check.refuses("loaded", x, STATE, o -> o.undo());
    }

    private static void statesStillRemembered() {
        Check.sentence("Returns how many states are still remembered.");
        Subject x = film();
        Check.refuses("undo of nothing", x, STATE, o -> o.undo());
        x.meal();
        Check.same("the last one", x.undo(), 0);
        Check.refuses("undo of nothing", x, STATE, o -> o.undo());
        x.meal();
        x.nextDay();
        Check.same("one is left", x.undo(), 1);
        x.nextDay();
        Check.same("one is left again", x.undo(), 1);
        Check.same("none", x.undo(), 0);
    }

    private static void undoOfEachAction() {
        Check.sentence("Takes back the last action that is remembered.");
        Subject x = film();
        Subject.Step[] actions = {o -> o.shoot(2), o -> o.replace(2, 3, 0), o -> o.meal(), o -> o.shoot(3),
            o -> o.extra(2, 9), o -> o.scene(2, 1, 0, 0, 60), o -> o.shoot(4), o -> o.nextDay(), o -> o.set(0, 240),
            o -> o.set(1, 1), o -> o.set(2, 0), o -> o.nextDay(), o -> o.meal(), o -> o.extra(0, 0)};
        String[] before = new String[actions.length];
        for (int k = 0; k < actions.length; k++) {
            before[k] = Looks.of(x);
            x.change(actions[k]);
        }
        for (int k = actions.length - 1; k >= 0; k--) {
            Check.same("undo of action " + k, x.undo(), k);
            Check.same("as before action " + k, Looks.of(x), before[k]);
        }
    }

    // ---- exceptions

    private static void refusedCallsRememberNothing() {
        Check.sentence("Each call of one of them that does not throw an exception is an action");
        Subject x = full();
        Check.same("remembered before", Check.remembered(x), 14);
        Subject.Step[] refused = {o -> o.extra(0, 0), o -> o.extra(5, 0), o -> o.scene(0, 1, 0, 0, 10),
            o -> o.scene(0, 0, 0, 0, 10), o -> o.shoot(0), o -> o.shoot(10), o -> o.replace(0, 0, 1),
            o -> o.replace(10, 0, 1), o -> o.set(0, 961), o -> o.set(3, 1)};
        for (int k = 0; k < refused.length; k++) {
            Subject.Step call = refused[k];
            Check.same("remembered behind call " + k,
                    Check.remembered(x, o -> Check.answer(o, call).length()), 14);
        }
    }

    private static void firstNamedException() {
        Check.sentence("If several exceptions apply to a call, the one that its description names first is thrown.");
        Subject x = full();
        x.write("F".repeat(120));
        Check.refuses("append: argument, then state", x, ARGUMENT, o -> o.append(256));
        Check.refuses("extraOf: index, then argument", x, INDEX, o -> o.extraOf(14, 7));
        Check.refuses("extraOf: index, then argument", x, INDEX, o -> o.extraOf(-1, -1));
        Check.refuses("sceneOf: index, then argument", x, INDEX, o -> o.sceneOf(10, 9));
        Check.refuses("sceneOf: index, then argument", x, INDEX, o -> o.sceneOf(-1, -1));
        Check.refuses("extra: argument, then state", x, ARGUMENT, o -> o.extra(5, 0));
        Check.refuses("extra: argument, then state", x, ARGUMENT, o -> o.extra(0, 14));
        int[][] scenes = {{5, 1, 0, 0, 10}, {0, 7, 0, 0, 10}, {0, 1, 10, 0, 10}, {0, 1, 0, 4, 10}, {0, 1, 0, 0, 241}};
        for (int[] s : scenes) {
            Check.refuses("scene: argument, then state", x, ARGUMENT, o -> o.scene(s[0], s[1], s[2], s[3], s[4]));
        }
        Check.refuses("would: index, then argument", x, INDEX, o -> o.would(10, 4));
        Check.refuses("would: index, then argument", x, INDEX, o -> o.would(-1, -1));
        Check.refuses("order: index, then argument", x, INDEX, o -> o.order(10, 10));
        Check.refuses("order: index, then argument", x, INDEX, o -> o.order(-1, -1));
        // Scene 4 has not been shot, and in scene 0 extra 1 plays: a wrong extra comes first all the same.
        Check.refuses("replace: index, then state", x, INDEX, o -> o.replace(4, 14, 0));
        Check.refuses("replace: index, then state", x, INDEX, o -> o.replace(4, 0, -1));
        Check.refuses("replace: index, then state", x, INDEX, o -> o.replace(0, 2, 14));
        Check.refuses("replace: index, then state", x, INDEX, o -> o.replace(0, -1, 1));
        Subject none = new Subject();
        Check.refuses("restore: index, then state", none, INDEX, o -> o.restore(2));
        Check.refuses("restore: index, then state", none, INDEX, o -> o.restore(-1));
        Check.refuses("shoot: index, then state", none, INDEX, o -> o.shoot(0));
    }

    private static void refusedCallsChangeNothing() {
        Check.sentence("A call that throws an exception changes nothing.");
        Subject x = full();
        int[] far = {-1, 14, FAR_BELOW, FAR_ABOVE};
        for (int v : far) {
            Check.refuses("about", x, ARGUMENT, o -> o.about(v));
            Check.refuses("extraOf", x, INDEX, o -> o.extraOf(v, 0));
            Check.refuses("extraOf", x, ARGUMENT, o -> o.extraOf(13, v));
            Check.refuses("sceneOf", x, INDEX, o -> o.sceneOf(v, 0));
            Check.refuses("sceneOf", x, ARGUMENT, o -> o.sceneOf(9, v));
            Check.refuses("setting", x, ARGUMENT, o -> o.setting(v));
            Check.refuses("shoot", x, INDEX, o -> o.shoot(v));
            Check.refuses("replace", x, INDEX, o -> o.replace(v, 0, 3));
            Check.refuses("replace", x, INDEX, o -> o.replace(0, v, 3));
            Check.refuses("replace", x, INDEX, o -> o.replace(0, 0, v));
            Check.refuses("set", x, ARGUMENT, o -> o.set(v, 50));
            Check.refuses("would", x, INDEX, o -> o.would(v, 0));
            Check.refuses("would", x, ARGUMENT, o -> o.would(9, v));
            Check.refuses("why", x, INDEX, o -> o.why(v, 0));
            Check.refuses("why", x, INDEX, o -> o.why(0, v));
            Check.refuses("lacks", x, INDEX, o -> o.lacks(v));
            Check.refuses("order", x, INDEX, o -> o.order(v, 0));
            Check.refuses("order", x, INDEX, o -> o.order(0, v));
            Check.refuses("save", x, INDEX, o -> o.save(v));
            Check.refuses("restore", x, INDEX, o -> o.restore(v));
            Check.refuses("runScript", x, ARGUMENT, o -> o.runScript(v, 20000L));
        }
        Check.refuses("append", x, ARGUMENT, o -> o.append(-1));
        Check.refuses("load", x, STATE, o -> o.load());
        Check.refuses("shoot", x, STATE, o -> o.shoot(0));
        Check.refuses("replace", x, STATE, o -> o.replace(0, 0, 1));
        Check.refuses("order", x, ARGUMENT, o -> o.order(9, 9));
        Check.refuses("runScript", x, ARGUMENT, o -> o.runScript(1, 120000L));
        Check.refuses("simulate", x, ARGUMENT, o -> o.simulate(1L, 0));
    }

    // ---- extra, scene

    private static void extra() {
        Check.sentence("Adds an extra. Returns the number.");
        Subject x = film();
        Check.range("the look", x, ARGUMENT, 0, 4, v -> o -> o.extra(v, 13));
        Check.range("the face", x, ARGUMENT, 0, 13, v -> o -> o.extra(4, v));
        Check.refuses("both wrong", x, ARGUMENT, o -> o.extra(-1, 14));
        Check.same("the sixth", x.extra(4, 13), 5);
        Check.extraIs(x, 5, 4, 13, 0, 0, 0, 0, 0);
        Check.same("extras", x.about(0), 6);
        Check.same("faces", x.about(8), 5);
        Subject full = full();
        Check.refuses("the 15th", full, STATE, o -> o.extra(4, 13));
        Check.range("the look of the 15th", thirteen(), ARGUMENT, 0, 4, v -> o -> o.extra(v, 13));
    }

    private static Subject thirteen() {
        Subject x = new Subject();
        for (int e = 0; e < 13; e++) {
            x.extra(e % 5, e);
        }
        return x;
    }

    private static void scene() {
        Check.sentence("Adds a scene. Returns its number.");
        Subject x = film();
        Check.same("the fifth", x.scene(0, 1, 0, 2, 60), 4);
        Check.same("scenes", x.about(1), 5);
        Check.same("shot", x.about(2), 2);
        Check.same("its barred faces", x.sceneOf(4, 8), 0b111);
        Check.refuses("all wrong", x, ARGUMENT, o -> o.scene(-1, 0, 10, 4, 9));
        Check.refuses("the 11th", full(), STATE, o -> o.scene(4, 6, 9, 3, 240));
    }

    // ---- shoot

    private static void shootThrows() {
        Check.sentence("Throws IndexOutOfBoundsException if there is no such scene");
        Subject x = film();
        for (int s : new int[] {-1, 4, 5, 9, 10, FAR_BELOW, FAR_ABOVE}) {
            Check.refuses("shoot(" + s + ")", x, INDEX, o -> o.shoot(s));
        }
        Check.sentence("Throws IllegalStateException if it has been shot, or cannot be shot");
        Check.refuses("shot", x, STATE, o -> o.shoot(0));
        Check.refuses("shot", x, STATE, o -> o.shoot(1));
        x.scene(0, 3, 3, 0, 10);
        x.scene(0, 4, 3, 0, 10);
        x.scene(3, 1, 3, 0, 10);
        x.scene(0, 1, 0, 3, 10);
        Check.refuses("three faces for four", x, STATE, o -> o.shoot(5));
        Check.refuses("nobody of that look", x, STATE, o -> o.shoot(6));
        Check.refuses("all barred", x, STATE, o -> o.shoot(7));
        Check.same("three faces for three", x.shoot(4), 0b1110);
        Check.refuses("shot just now", x, STATE, o -> o.shoot(4));
        x.undo();
        Check.same("and again", x.shoot(4), 0b1110);
    }

    private static void shootReturns() {
        Check.sentence("Returns its crowd, as a set.");
        Subject x = film();
        int[] due = {0b1100, 0b10000};
        for (int s = 2; s < 4; s++) {
            Check.same("would", x.would(s, 0), due[s - 2]);
            Check.same("shoot", x.shoot(s), due[s - 2]);
            Check.same("crowd", x.sceneOf(s, 6), due[s - 2]);
            Check.same("shot", x.sceneOf(s, 5), 1);
            Check.same("would", x.would(s, 0), NONE);
        }
        Check.abouts(x, 5, 4, 4, 0, 2 * 40 + 40 + 2 * 30 + 20, 0, 0, 0, 4);
    }

    // ---- replace

    private static void replaceIndexes() {
        Check.sentence("Throws IndexOutOfBoundsException if there is no such scene or extra");
        Subject x = film();
        for (int v : new int[] {-1, 4, 10, FAR_BELOW, FAR_ABOVE}) {
            Check.refuses("scene " + v, x, INDEX, o -> o.replace(v, 0, 3));
        }
        for (int v : new int[] {-1, 5, 14, 32, FAR_BELOW, FAR_ABOVE}) {
            Check.refuses("a is " + v, x, INDEX, o -> o.replace(0, v, 3));
            Check.refuses("b is " + v, x, INDEX, o -> o.replace(0, 0, v));
            Check.refuses("a is " + v + " in a scene that has not been shot", x, INDEX, o -> o.replace(2, v, 3));
        }
    }

    private static void replaceStates() {
        Check.sentence("Throws IllegalStateException if it has not been shot, a is not in its crowd, b is in it, the "
                + "look of b does not fit, the face of b is that of another one of its crowd than a, or it is barred");
        // Scene 0 has extras 0 and 1 with faces 0 and 1, scene 1 elsewhere has extra 2 with face 2.
        Subject x = Subject.loaded("Fe000e001e002e000e001e002e105s0200010s0101010s0210010g0g1e005");
        Check.same("crowds", x.sceneOf(0, 6) + 256 * x.sceneOf(1, 6), 0b11 + 256 * 0b100);
        Check.refuses("not been shot", x, STATE, o -> o.replace(2, 0, 3));
        Check.refuses("not been shot", x, STATE, o -> o.replace(2, 0, 7));
        Check.refuses("a is not in its crowd", x, STATE, o -> o.replace(0, 3, 7));
        Check.refuses("a is not in its crowd", x, STATE, o -> o.replace(0, 2, 7));
        Check.refuses("b is in it", x, STATE, o -> o.replace(0, 0, 1));
        Check.refuses("b is in it", x, STATE, o -> o.replace(0, 1, 0));
        Check.refuses("b is a", x, STATE, o -> o.replace(0, 0, 0));
        Check.refuses("the look", x, STATE, o -> o.replace(0, 0, 6));
        Check.refuses("the face of another one", x, STATE, o -> o.replace(0, 0, 4));
        Check.refuses("the face of another one", x, STATE, o -> o.replace(0, 1, 3));
        Check.refuses("barred", x, STATE, o -> o.replace(0, 0, 2));
        Check.refuses("barred, by a twin", x, STATE, o -> o.replace(0, 0, 5));
        Check.refuses("barred, by a twin", x, STATE, o -> o.replace(1, 2, 3));
        Check.same("the face of a", x.replace(0, 0, 3), 0b1010);
        Check.same("and back", x.replace(0, 3, 0), 0b0011);
        Check.same("the face of a", x.replace(0, 1, 4), 0b10001);
        Check.same("a new face", x.replace(0, 0, 7), 0b10010000);
        Check.refuses("who is out is not in its crowd", x, STATE, o -> o.replace(0, 0, 3));
        Check.same("who is out may come back", x.replace(0, 7, 0), 0b10001);
        Check.same("the face of a, barred elsewhere", x.replace(1, 2, 5), 0b100000);
    }

    private static void replaceLeaves() {
        Check.sentence("as if it had been so (minutes, wages, penalties and breaks stay as they are)");
        Subject x = Subject.loaded("Fe000e001s0100240s0110240s0120121s0130240s0140240g0");
        x.set(0, 960);
        x.shoot(1);
        x.shoot(2);
        x.shoot(3);
        Check.extraIs(x, 0, 0, 0, 361, 361, 2, 0, 40 + 30 + 5);
        Check.extraIs(x, 1, 0, 1, 480, 480, 2, 0, 80 + 20);
        Check.abouts(x, 2, 5, 4, 0, 150, 25, 5, 0, 2);
        Check.same("replace", x.replace(1, 1, 0), 0b01);
        Check.extraIs(x, 0, 0, 0, 361, 361, 3, 0, 75);
        Check.extraIs(x, 1, 0, 1, 480, 480, 1, 0, 100);
        Check.abouts(x, 2, 5, 4, 0, 150, 25, 5, 0, 2);
        Check.same("the crowd of the scene", x.sceneOf(1, 6), 0b01);
        Check.same("extra 0 is still the one with the fewest minutes", x.would(4, 0), 0b01);
        x.set(0, 480);
        Check.same("minutes do not matter to b", x.replace(0, 0, 1), 0b10);
        x.set(0, 240);
        Check.same("minutes do not matter to b", x.replace(0, 1, 0), 0b01);
    }

    private static void replaceFaces() {
        Check.sentence("Puts an extra in place of another one in the crowd of a scene that has been shot");
        Subject x = Subject.loaded("Fe000e001e002s0100010s0100010s0101010g0");
        x.replace(0, 0, 2);
        Check.same("crowd", x.sceneOf(0, 6), 0b100);
        Check.same("known", x.sceneOf(1, 7), 0b100);
        Check.same("barred", x.sceneOf(2, 8), 0b100);
        Check.same("who is seen again", x.would(1, 0), 0b100);
        Check.same("no break", x.would(1, 3), 0);
        Check.same("who may be elsewhere", x.would(2, 0), 0b010);
        x.shoot(1);
        x.replace(0, 2, 0);
        Check.same("two known faces", x.sceneOf(2, 8), 0b101);
        Check.same("breaks stay", x.about(7), 0);
    }

    // ---- meal, nextDay, set

    private static void mealReturns() {
        Check.sentence("Returns how many of them had more than 360 minutes.");
        int[][] ends = {{119, 0}, {120, 0}, {121, 1}};
        for (int[] end : ends) {
            Subject x = Subject.alone(240, end[0]);
            x.shoot(0);
            x.shoot(1);
            Check.same("meal behind " + (240 + end[0]), x.meal(), end[1]);
            Check.same("a second meal", x.meal(), 0);
        }
        for (int late = 0; late <= 6; late++) {
            Subject x = new Subject();
            for (int e = 0; e < 8; e++) {
                x.extra(0, e);
            }
            x.scene(0, 6, 0, 0, 240);
            x.shoot(0);
            if (late > 0) {
                x.scene(0, late, 0, 0, 121);
                x.shoot(1);
            }
            Check.same("meal behind " + late, x.meal(), late);
        }
        Check.same("meal of none", new Subject().meal(), 0);
        Subject very = Subject.loaded("Fe000e001e102s0200240s0200240s1110240g0g1g2");
        Check.same("eight penalties", very.about(6), 8);
        Check.same("of two of three", very.meal(), 2);
        Subject free = Subject.alone(240, 121);
        free.set(2, 0);
        free.shoot(0);
        free.shoot(1);
        Check.same("late, though it costs nothing", free.meal(), 1);
        Subject day = Subject.alone(240, 240);
        day.shoot(0);
        day.shoot(1);
        day.nextDay();
        Check.same("meal in the morning", day.meal(), 0);
    }

    private static void mealResets() {
        Check.sentence("for all extras the minutes since the latest meal, and the penalties counted since then, "
                + "become 0");
        Subject x = Subject.loaded("Fe000e101s0100240s0110240s1100240s1110010s0120100g0g1g2g3");
        Check.extraIs(x, 0, 0, 0, 480, 480);
        Check.extraIs(x, 1, 1, 1, 250, 250);
        x.meal();
        Check.extraIs(x, 0, 0, 0, 480, 0, 2, 0, 80 + 20);
        Check.extraIs(x, 1, 1, 1, 250, 0, 2, 0, 50);
        Check.abouts(x, 2, 5, 4, 0, 130, 20, 4, 2, 2);
        x.shoot(4);
        Check.same("100 minutes behind the meal", x.about(6), 4);
        x.set(0, 960);
        x.scene(0, 1, 5, 0, 240);
        x.scene(0, 1, 6, 0, 21);
        x.shoot(5);
        Check.same("340 minutes behind the meal", x.about(6), 4);
        Check.same("361 minutes behind it", x.would(6, 2), 5);
    }

    private static void nextDayReturns() {
        Check.sentence("Returns the days so far then.");
        Subject x = film();
        Check.same("the first day", x.about(3), 0);
        for (int k = 1; k <= 20; k++) {
            Check.same("nextDay", x.nextDay(), k);
            Check.same("days", x.about(3), k);
        }
        x.undo();
        Check.same("undo", x.about(3), 19);
        Check.same("nextDay", x.nextDay(), 20);
    }

    private static void nextDayResets() {
        Check.sentence("for all extras the minutes of work on the day, those since the latest meal, and the penalties "
                + "counted since then, become 0");
        Subject x = Subject.loaded("Fe000e101s0100240s0110240s1100240s0120240s0130121g0g1g2");
        x.nextDay();
        Check.extraIs(x, 0, 0, 0, 0, 0, 2, 0, 80 + 20);
        Check.extraIs(x, 1, 1, 1, 0, 0, 1, 0, 40);
        Check.abouts(x, 2, 5, 3, 1, 120, 20, 4, 1, 2);
        Check.same("crowds stay", x.sceneOf(0, 6), 1);
        x.shoot(3);
        Check.same("361 minutes: counted anew", x.would(4, 2), 5);
        x.shoot(4);
        Check.same("penalties", x.about(6), 5);
    }

    private static void set() {
        Check.sentence("Changes a setting. Returns the previous one.");
        Subject x = film();
        int[] first = {600, 10, 5};
        int[][] ranges = {{240, 960}, {1, 99}, {0, 99}};
        for (int what = 0; what < 3; what++) {
            int w = what;
            Check.range("setting " + w, x, ARGUMENT, ranges[w][0], ranges[w][1], v -> o -> o.set(w, v));
            Check.same("to its least", x.set(w, ranges[w][0]), first[w]);
            Check.same("to its most", x.set(w, ranges[w][1]), ranges[w][0]);
            Check.same("as it is", x.set(w, ranges[w][1]), ranges[w][1]);
            Check.same("setting", x.setting(w), ranges[w][1]);
        }
        Check.range("which setting", x, ARGUMENT, 0, 2, v -> o -> o.set(v, v == 0 ? 300 : 50));
        Check.refuses("a value of another setting", x, ARGUMENT, o -> o.set(0, 99));
        Check.refuses("a value of another setting", x, ARGUMENT, o -> o.set(1, 240));
        Check.refuses("a value of another setting", x, ARGUMENT, o -> o.set(2, 240));
        Check.refuses("a value of another setting", x, ARGUMENT, o -> o.set(1, 0));
    }
}
