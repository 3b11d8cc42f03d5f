/** Each promise of the document with answers worked out by hand: ordinary inputs, edges, wrong inputs. */
public final class PromiseTest {
    private static final Class<IllegalArgumentException> ARGUMENT = Check.ARGUMENT;
    private static final Class<IllegalStateException> STATE = Check.STATE;
    private static final Class<IndexOutOfBoundsException> INDEX = Check.INDEX;
    private static final int[] FAR = {Integer.MIN_VALUE, Integer.MAX_VALUE};

    private PromiseTest() {
    }

    public static void main(String[] args) {
        newObject();
        append();
        clearText();
        errorPosition();
        load();
        about();
        extraOf();
        sceneOf();
        setting();
        extra();
        scene();
        shoot();
        penalties();
        replace();
        meal();
        nextDay();
        set();
        undo();
        would();
        why();
        cheapest();
        lacks();
        order();
        runScript();
        runScriptGroups();
        simulate();
        save();
        restore();
        Check.finish();
    }

    // ---- helpers

    private static int error(String text) {
        Subject x = new Subject();
        x.write(text);
        return x.errorPosition();
    }

    private static void abouts(String name, Subject x, int... due) {
        for (int what = 0; what < due.length; what++) {
            Check.same(name + ": about(" + what + ")", x.about(what), due[what]);
        }
    }

    private static void extraIs(String name, Subject x, int e, int... due) {
        for (int what = 0; what < due.length; what++) {
            Check.same(name + ": extraOf(" + e + ", " + what + ")", x.extraOf(e, what), due[what]);
        }
    }

    private static void sceneIs(String name, Subject x, int s, int... due) {
        for (int what = 0; what < due.length; what++) {
            Check.same(name + ": sceneOf(" + s + ", " + what + ")", x.sceneOf(s, what), due[what]);
        }
    }

    private static void wouldBe(String name, Subject x, int s, int... due) {
        for (int what = 0; what < due.length; what++) {
            Check.same(name + ": would(" + s + ", " + what + ")", x.would(s, what), due[what]);
        }
    }

    // ---- the promises, in their order

    private static void newObject() {
        Subject x = new Subject();
        abouts("new", x, 0, 0, 0, 0, 0, 0, 0, 0, 0);
        Check.same("new: setting(0)", x.setting(0), 600);
        Check.same("new: setting(1)", x.setting(1), 10);
        Check.same("new: setting(2)", x.setting(2), 5);
        Check.same("new: errorPosition", x.errorPosition(), 0);
        Check.same("new: cheapest", x.cheapest(), CrowdFaces.NONE);
        Check.refuses("new: undo", x, STATE, o -> o.undo());
        Check.refuses("new: restore", x, STATE, o -> o.restore(0));
        Check.same("new: the text is empty", x.clearText(), 0);
        x.extra(0, 0);
        Check.same("new objects share nothing", new Subject().about(0), 0);
    }

    private static void append() {
        Subject x = new Subject();
        Check.same("append(0)", x.append(0), 1);
        Check.same("append(255)", x.append(255), 2);
        for (int wrong : new int[] {-1, 256, FAR[0], FAR[1]}) {
            Check.refuses("append(" + wrong + ")", x, ARGUMENT, o -> o.append(wrong));
        }
        for (int k = 3; k <= 120; k++) {
            Check.same("append", x.append('F'), k);
        }
        Check.refuses("append to a full text", x, STATE, o -> o.append('F'));
        Check.refuses("append of a wrong one to a full text", x, ARGUMENT, o -> o.append(256));
        Check.same("a full text's length", x.clearText(), 120);
        Check.refuses("append is no action", x, STATE, o -> o.undo());
    }

    private static void clearText() {
        Subject x = new Subject();
        Check.same("clearText of none", x.clearText(), 0);
        x.write("Fmn");
        Check.same("clearText", x.clearText(), 3);
        Check.same("clearText again", x.clearText(), 0);
        Check.same("append behind clearText", x.append('m'), 1);
        Check.same("what was there is gone", x.errorPosition(), 0);
    }

    private static void errorPosition() {
        String[] films = {"F", "Fm", "Fn", "Fg0", "Fg9", "Fe000", "Fe413", "Fe009", "Fe010", "Fs0100010",
            "Fs4693240", "Fs0100099", "Fs0100100", "Fs0100199", "Fs0100200", "Fs0100239", "Fe000s0100010g0mng9"};
        for (String film : films) {
            Check.same(film, error(film), CrowdFaces.NONE);
        }
        String[] wrong = {" ", "f", "e", "m", "Ff", "FF", "F ", "Fmx", "Fgm", "Fg:", "Fg/", "Fe5", "Fe-", "Fe02",
            "Fe09", "Fe0000", "Fe014", "Fe019", "Fe0 0", "Fe00/", "Fe00:", "Fs5", "Fs00", "Fs07", "Fs01:", "Fs0104",
            "Fs01003", "Fs01000m", "Fs010000", "Fs0100009", "Fs010025", "Fs0100241", "Fs0100249", "Fs01002400"};
        int[] at = {0, 0, 0, 0, 1, 1, 1, 2, 2, 2, 2, 2, 2, 3, 3, 5, 4, 4, 3, 4, 4, 2, 3, 3, 4, 5,
            6, 7, 7, 7, 7, 8, 8, 9};
        for (int k = 0; k < wrong.length; k++) {
            Check.same(wrong[k], error(wrong[k]), at[k]);
        }
        String[] begun = {"", "Fe", "Fe4", "Fe41", "Fs", "Fs4", "Fs46", "Fs469", "Fs4693", "Fs46932", "Fs469324",
            "Fs46930", "Fg", "Fmg"};
        for (String text : begun) {
            Check.same("begun " + text, error(text), text.length());
        }
        Subject x = new Subject();
        x.append(230);
        Check.same("a character above 127", x.errorPosition(), 0);
        x.write("Fe000g0");
        x.write("Fe0");
        Check.same("a longer text before does not matter", x.errorPosition(), 3);
        x.write("Fx000");
        x.write("Fs0100");
        Check.same("a longer text before does not matter", x.errorPosition(), 6);
    }

    private static void load() {
        Subject x = new Subject();
        x.extra(4, 4);
        x.set(0, 700);
        x.save(0);
        x.save(1);
        Check.refuses("load of no text", x, STATE, o -> o.load());
        x.write("Fe");
        Check.refuses("load of a text that ends too soon", x, STATE, o -> o.load());
        Check.same("which forgets no action", x.undo(), 1);
        Check.same("and no slot", x.restore(0), 0);
        x.extra(1, 1);
        x.write("Fe000e001s0100061g0g1g0s0310010g1nm");
        Check.same("load: three shoots are left out", x.load(), 3);
        abouts("loaded", x, 2, 2, 1, 1, 20, 0, 0, 0, 2);
        Check.same("load sets the settings back", x.setting(0), 600);
        Check.refuses("nothing is remembered behind load", x, STATE, o -> o.undo());
        Check.refuses("slot 0 is empty behind load", x, STATE, o -> o.restore(0));
        Check.refuses("slot 1 is empty behind load", x, STATE, o -> o.restore(1));
        Check.same("load keeps the text", x.clearText(), 35);
        x.write("Fe000e000e000e000e000e000e000e000e000e000e000e000e000e000e000e000mn");
        Check.same("the 15th and 16th extra are left out", x.load(), 2);
        Check.same("14 are there", x.about(0), 14);
        x.write("Fs0100010s0100010s0100010s0100010s0100010s0100010s0100010s0100010s0100010s0100010s0100010s4693240");
        Check.same("the 11th and 12th scene are left out", x.load(), 2);
        abouts("loaded scenes", x, 0, 10);
        x.write("Fe413e209s2693240");
        Check.same("load of all its numbers", x.load(), 0);
        extraIs("loaded", x, 0, 4, 13);
        extraIs("loaded", x, 1, 2, 9);
        sceneIs("loaded", x, 0, 2, 6, 9, 3, 240);
        loadLeavesNothing();
        Subject fed = Subject.loaded("Fe000s0100240s0110120s0120100g0g1mg2");
        extraIs("a meal in a text", fed, 0, 0, 0, 460, 100, 3, 0, 80);
    }

    private static void loadLeavesNothing() {
        Subject x = Subject.loaded("Fe201e201s2100240s2110240s2110240s2100240g0g1g2n");
        x.shoot(3);
        x.set(0, 300);
        x.set(1, 20);
        x.set(2, 30);
        abouts("before", x, 2, 4, 4, 1, 160, 20, 4, 0, 1);
        x.set(0, 960);
        Subject fresh = new Subject();
        x.write("F");
        fresh.write("F");
        Check.same("load of an empty film leaves none out", x.load(), 0);
        Check.same("as a new object", Looks.of(x), Looks.of(fresh));
        for (Subject each : new Subject[] {x, fresh}) {
            each.extra(1, 1);
            each.scene(1, 1, 0, 0, 100);
            each.scene(1, 2, 0, 0, 100);
        }
        Check.same("extras and scenes as in a new object", Looks.of(x), Looks.of(fresh));
        Subject worn = Subject.alone(240, 240, 240);
        worn.shoot(0);
        worn.shoot(1);
        worn.nextDay();
        abouts("worn", worn, 1, 3, 2, 1, 80, 20, 4, 0, 1);
        worn.write("F");
        worn.load();
        abouts("load", worn, 0, 0, 0, 0, 0, 0, 0, 0, 0);
    }

    private static void about() {
        Subject x = Subject.loaded("Fe000e001e001e000s0200200s0200200g0g1ns0100061s0100010g2");
        // Extras 0 and 1 work 200 + 200 minutes: two penalties each; then extra 0 works a begun second hour.
        abouts("about", x, 4, 4, 3, 1, 2 * 40 + 2 * 40 + 20, 4 * 5, 4, 1, 2);
        for (int wrong : new int[] {-1, 9, FAR[0], FAR[1]}) {
            Check.refuses("about(" + wrong + ")", x, ARGUMENT, o -> o.about(wrong));
        }
        x.meal();
        Check.same("meals count no day", x.about(3), 1);
    }

    private static void extraOf() {
        Subject x = Subject.loaded("Fe000e201e000s0100240s0101240g0g1e000s0120010");
        // Extra 0 plays scene 0; its face is barred at another place of that day, so scene 1 isn't shot.
        extraIs("extraOf", x, 0, 0, 0, 240, 240, 1, 0b1100, 40);
        extraIs("extraOf", x, 1, 2, 1, 0, 0, 0, 0, 0);
        extraIs("extraOf", x, 3, 0, 0, 0, 0, 0, 0b0101, 0);
        x.meal();
        extraIs("behind a meal", x, 0, 0, 0, 240, 0, 1, 0b1100, 40);
        x.replace(0, 0, 2);
        extraIs("replaced", x, 0, 0, 0, 240, 0, 0, 0b1100, 40);
        extraIs("in its place", x, 2, 0, 0, 0, 0, 1, 0b1001, 0);
        for (int wrong : new int[] {-1, 7, FAR[0], FAR[1]}) {
            Check.refuses("extraOf(0, " + wrong + ")", x, ARGUMENT, o -> o.extraOf(0, wrong));
        }
        for (int wrong : new int[] {-1, 4, 14, FAR[0], FAR[1]}) {
            Check.refuses("extraOf(" + wrong + ", 0)", x, INDEX, o -> o.extraOf(wrong, 0));
            Check.refuses("extraOf(" + wrong + ", 7)", x, INDEX, o -> o.extraOf(wrong, 7));
        }
        Subject y = Subject.alone(240, 240);
        y.shoot(0);
        y.shoot(1);
        extraIs("earned with penalties", y, 0, 0, 0, 480, 480, 2, 0, 40 + 40 + 4 * 5);
    }

    private static void sceneOf() {
        Subject x = Subject.loaded("Fe000e001e002s0110060s0210060s0120060s0100060s4693240");
        sceneIs("sceneOf", x, 4, 4, 6, 9, 3, 240, 0, 0, 0, 0);
        sceneIs("not shot", x, 0, 0, 1, 1, 0, 60, 0, 0, 0, 0);
        x.shoot(0);
        sceneIs("its own crowd makes no face known", x, 0, 0, 1, 1, 0, 60, 1, 0b001, 0, 0);
        sceneIs("known at the same place", x, 1, 0, 2, 1, 0, 60, 0, 0, 0b001, 0);
        sceneIs("another story day", x, 2, 0, 1, 2, 0, 60, 0, 0, 0, 0);
        sceneIs("another story day", x, 3, 0, 1, 0, 0, 60, 0, 0, 0, 0);
        x.shoot(1);
        sceneIs("shot twice", x, 1, 0, 2, 1, 0, 60, 1, 0b011, 0b001, 0);
        sceneIs("what was shot later is known too", x, 0, 0, 1, 1, 0, 60, 1, 0b001, 0b011, 0);
        x.scene(3, 1, 1, 1, 10);
        x.scene(3, 1, 1, 3, 10);
        sceneIs("barred at other places, whatever the look", x, 5, 3, 1, 1, 1, 10, 0, 0, 0, 0b011);
        x.extra(3, 13);
        x.shoot(5);
        sceneIs("barred by two places", x, 6, 3, 1, 1, 3, 10, 0, 0, 0, 0b10000000000011);
        sceneIs("barred of a shot scene", x, 0, 0, 1, 1, 0, 60, 1, 0b001, 0b011, 0b10000000000000);
        for (int wrong : new int[] {-1, 9, FAR[0], FAR[1]}) {
            Check.refuses("sceneOf(0, " + wrong + ")", x, ARGUMENT, o -> o.sceneOf(0, wrong));
        }
        for (int wrong : new int[] {-1, 7, 10, FAR[0], FAR[1]}) {
            Check.refuses("sceneOf(" + wrong + ", 0)", x, INDEX, o -> o.sceneOf(wrong, 0));
            Check.refuses("sceneOf(" + wrong + ", 9)", x, INDEX, o -> o.sceneOf(wrong, 9));
        }
    }

    private static void setting() {
        Subject x = new Subject();
        x.set(0, 961 - 1);
        x.set(1, 98);
        x.set(2, 97);
        Check.same("setting(0)", x.setting(0), 960);
        Check.same("setting(1)", x.setting(1), 98);
        Check.same("setting(2)", x.setting(2), 97);
        for (int wrong : new int[] {-1, 3, FAR[0], FAR[1]}) {
            Check.refuses("setting(" + wrong + ")", x, ARGUMENT, o -> o.setting(wrong));
        }
    }

    private static void extra() {
        Subject x = new Subject();
        int[][] wrong = {{-1, 0}, {5, 0}, {0, -1}, {0, 14}, {FAR[0], 0}, {FAR[1], 0}, {0, FAR[0]}, {0, FAR[1]}};
        for (int[] w : wrong) {
            Check.refuses("extra(" + w[0] + ", " + w[1] + ")", x, ARGUMENT, o -> o.extra(w[0], w[1]));
        }
        for (int e = 0; e < 14; e++) {
            Check.same("extra", x.extra(e % 5, 13 - e), e);
            extraIs("extra", x, e, e % 5, 13 - e, 0, 0, 0, 0, 0);
        }
        Check.same("14 faces", x.about(8), 14);
        Check.refuses("the 15th extra", x, STATE, o -> o.extra(0, 0));
        Check.refuses("a wrong 15th extra", x, ARGUMENT, o -> o.extra(5, 0));
        Check.same("14 actions", x.undo(), 13);
        Check.same("the last one is gone", x.about(0), 13);
        Check.same("its number is taken again", x.extra(1, 1), 13);
        extraIs("a new one", x, 13, 1, 1, 0, 0, 0, 1 << 12, 0);
    }

    private static void scene() {
        Subject x = new Subject();
        int[][] wrong = {{-1, 1, 0, 0, 10}, {5, 1, 0, 0, 10}, {0, 0, 0, 0, 10}, {0, 7, 0, 0, 10}, {0, 1, -1, 0, 10},
            {0, 1, 10, 0, 10}, {0, 1, 0, -1, 10}, {0, 1, 0, 4, 10}, {0, 1, 0, 0, 9}, {0, 1, 0, 0, 241},
            {0, 1, 0, 0, FAR[0]}, {0, FAR[1], 0, 0, 10}};
        for (int[] w : wrong) {
            Check.refuses("scene", x, ARGUMENT, o -> o.scene(w[0], w[1], w[2], w[3], w[4]));
        }
        for (int s = 0; s < 10; s++) {
            Check.same("scene", x.scene(s % 5, 1 + s % 6, s, s % 4, s == 9 ? 240 : 10 + s), s);
            sceneIs("scene", x, s, s % 5, 1 + s % 6, s, s % 4, s == 9 ? 240 : 10 + s, 0, 0, 0, 0);
        }
        Check.refuses("the 11th scene", x, STATE, o -> o.scene(0, 1, 0, 0, 10));
        Check.refuses("a wrong 11th scene", x, ARGUMENT, o -> o.scene(0, 7, 0, 0, 10));
        Check.same("ten actions", x.undo(), 9);
        Check.same("the last one is gone", x.about(1), 9);
    }

    private static void shoot() {
        Subject x = Subject.loaded("Fe003e001e001e000e102e004s0210060s0310060s0111061s1110060s0610060");
        Check.same("the lowest first, one of a face", x.shoot(0), 0b000011);
        abouts("shot", x, 6, 5, 1, 0, 20, 0, 0, 0, 5);
        extraIs("shot", x, 0, 0, 3, 60, 60, 1, 0, 10);
        Check.refuses("shoot again", x, STATE, o -> o.shoot(0));
        Check.same("the known faces first, then who has worked least", x.shoot(1), 0b001011);
        Check.same("who was seen here is not elsewhere", x.shoot(2), 0b100000);
        extraIs("two begun hours", x, 5, 0, 4, 61, 61, 1, 0, 20);
        Check.same("another look: three breaks", x.shoot(3), 0b010000);
        Check.same("the breaks", x.about(7), 3);
        Check.refuses("too few", x, STATE, o -> o.shoot(4));
        for (int wrong : new int[] {-1, 5, 10, FAR[0], FAR[1]}) {
            Check.refuses("shoot(" + wrong + ")", x, INDEX, o -> o.shoot(wrong));
        }
        knownFaceIsTheLowestFree();
        Subject day = Subject.alone(240, 240, 121, 120);
        day.shoot(0);
        day.shoot(1);
        Check.refuses("a minute too many", day, STATE, o -> o.shoot(2));
        Check.same("up to the bound itself", day.shoot(3), 1);
    }

    private static void knownFaceIsTheLowestFree() {
        Subject x = new Subject();
        x.extra(0, 5);
        x.extra(0, 2);
        x.extra(0, 5);
        x.extra(0, 2);
        x.scene(0, 2, 0, 0, 240);
        x.scene(0, 1, 0, 0, 240);
        x.scene(0, 2, 0, 0, 10);
        x.set(0, 240);
        Check.same("both faces", x.shoot(0), 0b0011);
        Check.same("by numbers of faces, of a face the lowest who is free", x.shoot(1), 0b1000);
        Check.same("one break", x.about(7), 1);
        Check.refuses("one known face is free, and no other face", x, STATE, o -> o.shoot(2));
        Subject least = new Subject();
        for (int face = 0; face < 4; face++) {
            least.extra(0, face);
        }
        least.scene(0, 2, 0, 0, 10);
        least.scene(0, 1, 1, 0, 10);
        least.scene(0, 3, 2, 0, 20);
        Check.same("the lowest two", least.shoot(0), 0b0011);
        Check.same("the lowest who has not worked", least.shoot(1), 0b0100);
        Check.same("who has not worked, then the lowest", least.shoot(2), 0b1011);
    }

    private static void penalties() {
        Subject x = Subject.alone(240, 120, 10, 20, 10, 240, 10);
        x.set(0, 960);
        x.shoot(0);
        x.shoot(1);
        Check.same("none at 360 minutes", x.about(6), 0);
        x.shoot(2);
        abouts("370 minutes", x, 1, 7, 3, 0, 40 + 20 + 10, 5, 1, 0, 1);
        x.shoot(3);
        Check.same("none more at 390 minutes", x.about(6), 1);
        x.set(2, 7);
        x.shoot(4);
        abouts("400 minutes", x, 1, 7, 5, 0, 90, 5 + 7, 2, 0, 1);
        extraIs("400 minutes", x, 0, 0, 0, 400, 400, 5, 0, 90 + 12);
        x.shoot(5);
        abouts("640 minutes", x, 1, 7, 6, 0, 130, 12 + 8 * 7, 10, 0, 1);
        x.meal();
        x.shoot(6);
        abouts("behind the meal", x, 1, 7, 7, 0, 140, 68, 10, 0, 1);
        extraIs("behind the meal", x, 0, 0, 0, 650, 10, 7, 0, 140 + 68);
    }

    private static void replace() {
        Subject x = Subject.loaded("Fe000e001e000e001e102e003s0210060s0111060g0g1s0110060");
        // Scene 0 has extras 0 and 1, scene 1, elsewhere on that day, has extra 5.
        Check.same("crowd", x.sceneOf(0, 6), 0b000011);
        Check.same("crowd", x.sceneOf(1, 6), 0b100000);
        Check.refuses("not shot", x, STATE, o -> o.replace(2, 0, 2));
        Check.refuses("a is not in the crowd", x, STATE, o -> o.replace(0, 2, 3));
        Check.refuses("b is in the crowd", x, STATE, o -> o.replace(0, 0, 1));
        Check.refuses("a is b", x, STATE, o -> o.replace(0, 0, 0));
        Check.refuses("another look", x, STATE, o -> o.replace(0, 0, 4));
        Check.refuses("the face of the other one", x, STATE, o -> o.replace(0, 0, 3));
        Check.refuses("a barred face", x, STATE, o -> o.replace(0, 0, 5));
        int[][] wrong = {{3, 0, 2}, {-1, 0, 2}, {0, -1, 2}, {0, 6, 2}, {0, 0, -1}, {0, 0, 6}, {2, 0, 14},
            {FAR[0], 0, 2}, {0, FAR[1], 2}, {0, 0, FAR[0]}};
        for (int[] w : wrong) {
            Check.refuses("replace", x, INDEX, o -> o.replace(w[0], w[1], w[2]));
        }
        x.set(0, 240);
        Check.same("the same face", x.replace(0, 0, 2), 0b000110);
        Check.same("known faces follow", x.sceneOf(2, 7), 0b11);
        extraIs("who was there", x, 0, 0, 0, 60, 60, 0, 0b100, 10);
        extraIs("who is there", x, 2, 0, 0, 0, 0, 1, 0b001, 0);
        abouts("replace", x, 6, 3, 2, 0, 30, 0, 0, 0, 4);
        int fresh = x.extra(0, 7);
        Check.same("another face", x.replace(0, 2, fresh), 0b1000010);
        Check.same("known faces follow", x.sceneOf(2, 7), 0b10000010);
        Check.same("barred faces follow", x.sceneOf(1, 8), 0b10000010);
        Check.same("its own face is free for it", x.replace(0, 1, 3), 0b1001000);
        Subject full = Subject.alone(240, 240);
        full.shoot(0);
        full.extra(0, 1);
        full.shoot(1);
        full.set(0, 240);
        Check.same("minutes do not matter", full.replace(0, 0, 1), 0b10);
    }

    private static void meal() {
        Subject x = Subject.alone(240, 120, 10);
        Check.same("a meal for none who is late", x.meal(), 0);
        x.shoot(0);
        x.shoot(1);
        Check.same("360 minutes are not more than 360", x.meal(), 0);
        extraIs("meal", x, 0, 0, 0, 360, 0, 2);
        x.undo();
        x.shoot(2);
        Check.same("370 minutes are", x.meal(), 1);
        Check.same("once", x.meal(), 0);
        Check.same("penalties so far stay", x.about(6), 1);
        Subject two = Subject.loaded("Fe000e001s0200240s0210240s0220061g0g1");
        Check.same("two were late", two.meal(), 2);
        two.shoot(2);
        Check.same("counted anew: none at 61 minutes", two.about(6), 8);
    }

    private static void nextDay() {
        Subject x = Subject.alone(240, 240, 240, 130);
        Check.same("nextDay", x.nextDay(), 1);
        x.shoot(0);
        x.shoot(1);
        Check.refuses("the day is too long", x, STATE, o -> o.shoot(2));
        Check.same("nextDay again", x.nextDay(), 2);
        extraIs("a new day", x, 0, 0, 0, 0, 0, 2, 0, 80 + 20);
        abouts("a new day", x, 1, 4, 2, 2, 80, 20, 4, 0, 1);
        x.shoot(2);
        x.shoot(3);
        Check.same("counted anew", x.about(6), 5);
    }

    private static void set() {
        Subject x = new Subject();
        int[][] wrong = {{-1, 50}, {3, 50}, {0, 239}, {0, 961}, {1, 0}, {1, 100}, {2, -1}, {2, 100},
            {FAR[0], 0}, {FAR[1], 0}, {0, FAR[0]}, {0, FAR[1]}};
        for (int[] w : wrong) {
            Check.refuses("set(" + w[0] + ", " + w[1] + ")", x, ARGUMENT, o -> o.set(w[0], w[1]));
        }
        int[][] right = {{0, 240, 600}, {0, 960, 240}, {1, 1, 10}, {1, 99, 1}, {2, 0, 5}, {2, 99, 0}, {2, 99, 99}};
        for (int[] r : right) {
            Check.same("set(" + r[0] + ", " + r[1] + ")", x.set(r[0], r[1]), r[2]);
            Check.same("then setting", x.setting(r[0]), r[1]);
        }
        Check.same("each was an action", x.undo(), 6);
        Subject paid = Subject.alone(240, 240, 240);
        paid.set(1, 3);
        paid.shoot(0);
        paid.set(2, 11);
        paid.shoot(1);
        abouts("wages and penalties as set", paid, 1, 3, 2, 0, 24, 44, 4, 0, 1);
        paid.set(0, 719);
        Check.refuses("the day as set", paid, STATE, o -> o.shoot(2));
        paid.set(0, 720);
        Check.same("the day as set", paid.shoot(2), 1);
    }

    private static void undo() {
        Subject x = new Subject();
        for (int k = 0; k < 16; k++) {
            x.set(1, 20 + k);
        }
        for (int k = 13; k >= 0; k--) {
            Check.same("undo", x.undo(), k);
            Check.same("the wage then", x.setting(1), 21 + k);
        }
        Check.refuses("14 are remembered", x, STATE, o -> o.undo());
        Subject y = Subject.loaded("Fe000e001e000s0200240s0220240s0110240");
        String[] looks = new String[10];
        Check.Call[] actions = {() -> y.shoot(0), () -> y.shoot(1), () -> y.meal(), () -> y.replace(0, 0, 2),
            () -> y.extra(3, 3), () -> y.scene(0, 1, 0, 0, 10), () -> y.nextDay(), () -> y.nextDay(),
            () -> y.set(2, 5), () -> y.meal()};
        for (int k = 0; k < actions.length; k++) {
            looks[k] = Looks.of(y);
            actions[k].run();
        }
        y.write("Fm");
        y.save(1);
        for (int k = actions.length - 1; k >= 0; k--) {
            Check.same("undo of action " + k, y.undo(), k);
            Check.same("as before action " + k, Looks.of(y), looks[k]);
        }
        Check.same("undo leaves the text", y.clearText(), 2);
        Check.same("undo leaves the slots", y.restore(1), 2);
        Check.refuses("undo is no action", y, STATE, o -> o.undo());
    }

    private static void would() {
        Subject x = Subject.loaded("Fe000e001e102s0100240s0100120s1100061s0300010g0");
        wouldBe("shot", x, 0, -1, -1, -1, -1);
        wouldBe("too few", x, 3, -1, -1, -1, -1);
        wouldBe("known", x, 1, 0b001, 20, 0, 0);
        wouldBe("another look", x, 2, 0b100, 20, 0, 1);
        x.scene(0, 2, 1, 0, 150);
        wouldBe("a penalty", x, 4, 0b011, 2 * 30, 5, 0);
        x.scene(0, 2, 1, 0, 151);
        wouldBe("two penalties", x, 5, 0b011, 2 * 30, 10, 0);
        x.shoot(4);
        wouldBe("only those not counted yet", x, 1, 0b001, 20, 4 * 5, 0);
        for (int wrong : new int[] {-1, 4, FAR[0], FAR[1]}) {
            Check.refuses("would(0, " + wrong + ")", x, ARGUMENT, o -> o.would(0, wrong));
        }
        for (int wrong : new int[] {-1, 6, 10, FAR[0], FAR[1]}) {
            Check.refuses("would(" + wrong + ", 0)", x, INDEX, o -> o.would(wrong, 0));
            Check.refuses("would(" + wrong + ", 4)", x, INDEX, o -> o.would(wrong, 4));
        }
        Check.same("would is no action", x.undo(), 2);
    }

    private static void why() {
        Subject x = Subject.loaded("Fe000e001e101e001e002s0210060s0111060s0210120s1120060g0");
        Check.same("crowd", x.sceneOf(0, 6), 0b00011);
        Check.same("look", x.why(0, 2), 1);
        Check.same("shot", x.why(0, 0), 4);
        Check.same("barred", x.why(1, 0), 3);
        Check.same("barred by a twin", x.why(1, 3), 3);
        Check.same("in", x.why(1, 4), 0);
        Check.same("a twin is in", x.why(2, 3), 5);
        Check.same("full", x.why(2, 4), 6);
        Check.same("in", x.why(2, 1), 0);
        x.set(0, 240);
        x.scene(0, 1, 2, 0, 180);
        x.scene(0, 3, 2, 0, 181);
        x.scene(0, 1, 1, 2, 181);
        Check.same("just time enough", x.why(4, 0), 6);
        Check.same("no time", x.why(5, 0), 2);
        Check.same("time, but it cannot be shot", x.why(5, 4), 4);
        Check.same("no time comes before barred", x.why(6, 0), 2);
        Check.same("look comes before no time", x.why(5, 2), 1);
        x.shoot(1);
        Check.same("barred comes before cannot be shot", x.why(6, 4), 2);
        Check.same("no time comes before shot", loadedLongDay().why(0, 0), 2);
        int[][] wrong = {{-1, 0}, {7, 0}, {0, -1}, {0, 5}, {FAR[0], 0}, {0, FAR[1]}, {10, 14}};
        for (int[] w : wrong) {
            Check.refuses("why(" + w[0] + ", " + w[1] + ")", x, INDEX, o -> o.why(w[0], w[1]));
        }
        Subject none = Subject.loaded("Fe000s0100010s0110010s0200010g0");
        Check.same("barred comes before cannot be shot", Subject.loaded("Fe000s0100010s0210010g0").why(1, 0), 4);
        Check.same("barred comes before cannot be shot", Subject.loaded("Fe000s0100010s0201010g0").why(1, 0), 3);
        Check.same("cannot be shot", none.why(2, 0), 4);
    }

    private static Subject loadedLongDay() {
        Subject x = Subject.alone(240, 240);
        x.shoot(0);
        x.shoot(1);
        return x;
    }

    private static void cheapest() {
        Subject x = Subject.loaded("Fe000e001s0200060s0110120s0120061s0400010s1130010");
        Check.same("the lowest of three with 20", x.cheapest(), 0);
        x.shoot(0);
        Check.same("the lowest of two", x.cheapest(), 1);
        x.shoot(1);
        x.shoot(2);
        Check.same("none can be shot", x.cheapest(), CrowdFaces.NONE);
        Subject y = Subject.alone(240, 121, 60, 120);
        y.shoot(0);
        Check.same("the least wages", y.cheapest(), 2);
        y.shoot(2);
        Check.same("20 without a penalty in front of 30 with three", y.cheapest(), 3);
        y.set(2, 0);
        y.scene(0, 1, 9, 0, 50);
        Check.same("a later one", y.cheapest(), 4);
        y.shoot(3);
        y.undo();
        y.set(2, 99);
        y.set(1, 1);
        y.scene(0, 2, 8, 0, 10);
        y.extra(0, 1);
        y.extra(0, 2);
        Check.same("a scene that may be dear by penalties", y.would(4, 2), 0);
        Check.same("two who had no work are dearer than one", y.cheapest(), 4);
        penaltiesMakeDear();
        Check.same("no scenes", new Subject().cheapest(), CrowdFaces.NONE);
    }

    private static void penaltiesMakeDear() {
        Subject x = Subject.loaded("Fe000e101s0100240s0100120s0100010s1100180g0g1");
        Check.same("one hour and a penalty of 5", x.would(2, 1) + x.would(2, 2), 15);
        Check.same("cheaper than three hours", x.cheapest(), 2);
        x.set(2, 20);
        Check.same("as dear as three hours", x.cheapest(), 2);
        x.set(2, 21);
        Check.same("dearer than three hours", x.cheapest(), 3);
    }

    private static void lacks() {
        Subject x = Subject.loaded("Fe000e001e001e102s0200240s0400060s0600010s2600010s0201010");
        Check.same("enough", x.lacks(0), 0);
        Check.same("two faces for four", x.lacks(1), 2);
        Check.same("two faces for six", x.lacks(2), 4);
        Check.same("none of that look", x.lacks(3), 6);
        x.shoot(0);
        Check.same("shot: chosen again, with the same ones", x.lacks(0), 0);
        Check.same("all are barred", x.lacks(4), 2);
        x.set(0, 479);
        Check.same("shot: by the minutes as they are", x.lacks(0), 1);
        x.extra(0, 1);
        Check.same("a twin does not help", x.lacks(0), 1);
        x.extra(0, 9);
        Check.same("one who is free", x.lacks(0), 0);
        for (int wrong : new int[] {-1, 5, 10, FAR[0], FAR[1]}) {
            Check.refuses("lacks(" + wrong + ")", x, INDEX, o -> o.lacks(wrong));
        }
    }

    private static void order() {
        Subject x = Subject.alone(240, 120, 121);
        Check.same("the same cost", x.order(0, 1), 2);
        Check.refuses("a scene and itself", x, ARGUMENT, o -> o.order(1, 1));
        int[][] wrong = {{-1, 0}, {0, -1}, {3, 0}, {0, 3}, {3, 3}, {FAR[0], 0}, {0, FAR[1]}};
        for (int[] w : wrong) {
            Check.refuses("order(" + w[0] + ", " + w[1] + ")", x, INDEX, o -> o.order(w[0], w[1]));
        }
        x.set(0, 360);
        Check.same("at the bound of the day", x.order(0, 1), 2);
        Check.same("above it", x.order(0, 2), CrowdFaces.NONE);
        x.shoot(0);
        Check.same("one has been shot", x.order(0, 1), CrowdFaces.NONE);
        Check.same("one has been shot", x.order(1, 0), CrowdFaces.NONE);
        twinsInOrder();
        elsewhereInOrder();
    }

    /** Whoever is taken first is seen again, and only one of the twins waits for a meal. */
    private static void twinsInOrder() {
        Subject x = new Subject();
        x.extra(0, 0);
        x.extra(1, 1);
        x.extra(0, 1);
        x.scene(0, 1, 5, 0, 240);
        x.scene(0, 1, 6, 0, 120);
        x.shoot(0);
        x.undo();
        x.scene(0, 1, 0, 0, 240);
        x.scene(0, 1, 1, 0, 240);
        x.shoot(0);
        // Extra 0 has 240 minutes. Scene 1 (120) and scene 2 (240), on other story days: who has worked
        // less plays the first, extra 2, and then again whoever has less.
        Check.same("extra 2 at 120, then again: 360", x.order(1, 2), 2);
        x.scene(0, 2, 9, 0, 240);
        // 1 then 4: extra 2 has 120, then both: 480 and 360, four penalties. 4 then 1: 480 and 240, and then
        // extra 2 gets 360: four too.
        Check.same("both as dear", x.order(1, 4), 2);
        x.scene(0, 1, 9, 0, 130);
        // 4 then 5: both 480 and 240, then extra 0, the known face: 610 is too long a day, so face 1: 370.
        // 5 then 4: extra 2 has 130, then both: 480 and 370: the same.
        Check.same("both as dear again", x.order(4, 5), 2);
        x.set(0, 960);
        // Now 4 then 5 takes extra 0 again: 610, nine penalties; 5 then 4 has 4 + 1.
        Check.same("dearer", x.order(4, 5), 1);
        Check.same("cheaper", x.order(5, 4), 0);
        Check.same("order is no action", x.about(2), 1);
    }

    /** In one order the second scene finds its only extra barred; in the other, not. */
    private static void elsewhereInOrder() {
        Subject x = new Subject();
        x.extra(0, 0);
        x.extra(0, 1);
        x.scene(0, 1, 0, 0, 10);
        x.scene(0, 1, 0, 1, 10);
        x.scene(0, 2, 0, 1, 10);
        Check.same("one each", x.order(0, 1), 2);
        Check.same("both barred", x.order(0, 2), CrowdFaces.NONE);
        Subject y = new Subject();
        y.extra(0, 0);
        y.extra(1, 1);
        y.extra(0, 1);
        y.extra(1, 2);
        y.scene(0, 1, 0, 0, 10);
        y.scene(1, 2, 0, 1, 10);
        Check.same("extra 0 here, the others there", y.order(0, 1), 2);
        y.scene(0, 1, 3, 0, 10);
        y.shoot(2);
        // Extra 2 now goes first to scene 0, and its face is barred for scene 1; the other way it is not.
        Check.same("only in one order", y.order(0, 1), CrowdFaces.NONE);
        Check.same("only in one order", y.order(1, 0), CrowdFaces.NONE);
    }

    private static void runScript() {
        Subject x = Subject.loaded("Fe000e001e000s0200240s0100240s0101010g0");
        String before = Looks.of(x);
        Check.same("shoot, then one barred", x.runScript(2, 1100012000L), 1);
        Check.same("shoot a shot one", x.runScript(1, 10000L), 0);
        Check.same("shoot", x.runScript(1, 11000L), CrowdFaces.NONE);
        Check.same("shoot twice", x.runScript(2, 1100011000L), 1);
        Check.same("the highest group is first", x.runScript(3, 200003000010000L), 2);
        Check.same("zeros before: no such command", x.runScript(2, 11000L), 0);
        Check.same("nothing at all", x.runScript(3, 0L), 0);
        Check.same("the highest", x.runScript(3, 999999999999999L), 0);
        Check.same("scripts change nothing", Looks.of(x), before);
        int[] counts = {0, 4, -1, FAR[0], FAR[1]};
        for (int n : counts) {
            Check.refuses("runScript(" + n + ", ..)", x, ARGUMENT, o -> o.runScript(n, 20000L));
        }
        Check.refuses("negative", x, ARGUMENT, o -> o.runScript(1, -1L));
        Check.refuses("most negative", x, ARGUMENT, o -> o.runScript(3, Long.MIN_VALUE));
        Check.refuses("six digits", x, ARGUMENT, o -> o.runScript(1, 100000L));
        Check.refuses("eleven digits", x, ARGUMENT, o -> o.runScript(2, 10000000000L));
        Check.refuses("sixteen digits", x, ARGUMENT, o -> o.runScript(3, 1000000000000000L));
        Check.refuses("greatest", x, ARGUMENT, o -> o.runScript(3, Long.MAX_VALUE));
    }

    private static void runScriptGroups() {
        // Scene 0: extras 0 and 1, four hours. Scene 1: extra 0 again, so extra 1's face is a break.
        Subject x = Subject.loaded("Fe000e001e000s0200240s0100240s0101010g0g1e002");
        abouts("before", x, 4, 3, 2, 0, 120, 20, 4, 1, 3);
        int[] fine = {12000, 20000, 30000, 40000, 41000, 40010, 50240, 50960, 51001, 51099, 52000, 52099, 60000,
            60010, 61000, 70001, 70101, 70200, 70300, 80004, 80099, 90001, 90099};
        for (int group : fine) {
            Check.same("group " + group, x.runScript(1, group), CrowdFaces.NONE);
        }
        int[] fails = {10000, 12001, 12010, 12100, 13000, 19000, 20001, 20010, 20100, 21000, 30001, 30010, 30100,
            31000, 40001, 40020, 40040, 40320, 40330, 40990, 42000, 43000, 49000,
            50239, 50961, 51000, 51100, 52100, 53050, 59050,
            60001, 60020, 61010, 60040, 60320, 60330, 60990, 62000, 63000, 69000, 70000, 70002, 70009, 70011, 70201,
            70400, 71400, 79900, 80003, 80104, 81004, 90000, 90101, 91001, 0, 9999, 1};
        for (int group : fails) {
            Check.same("group " + group, x.runScript(1, group), 0);
        }
        Check.same("replaced by the lowest: extra 2", x.runScript(2, 4000060020L), CrowdFaces.NONE);
        Check.same("and not by extra 3", x.runScript(2, 4000060030L), 1);
        Check.same("in place of extra 1, the lowest is 3", x.runScript(2, 4001060030L), CrowdFaces.NONE);
        Check.same("the lowest may be extra 0", x.runScript(3, 400004002060000L), CrowdFaces.NONE);
        Check.same("who was replaced is out", x.runScript(2, 4000060000L), 1);
        Check.same("a day begins", x.runScript(2, 3000070000L), CrowdFaces.NONE);
        Check.same("a meal ends no day's work", x.runScript(2, 2000070001L), CrowdFaces.NONE);
        Check.same("a setting counts", alreadyWorked().runScript(2, 5047911000L), 1);
        Check.same("a setting counts", alreadyWorked().runScript(2, 5048011000L), CrowdFaces.NONE);
        // Extra 3 has not worked, and plays scene 2 in ten minutes.
        Check.same("penalties then", x.runScript(2, 1200080004L), CrowdFaces.NONE);
    }

    private static Subject alreadyWorked() {
        Subject x = Subject.alone(240, 240);
        x.shoot(0);
        return x;
    }

    private static void simulate() {
        Subject x = new Subject();
        for (int wrong : new int[] {0, 61, -1, FAR[0], FAR[1]}) {
            Check.refuses("simulate(1, " + wrong + ")", x, ARGUMENT, o -> o.simulate(1L, wrong));
        }
        // Found by Model, with which ModelTest compares call by call.
        long[][] due = {{0, 59, 10000}, {1, 60, 70000}, {1, 59, 60000}, {-1, 20, 10000}, {-1, 59, 50000},
            {42, 60, 40000}, {42, 20, 0}, {Long.MAX_VALUE, 60, 30000}, {Long.MIN_VALUE, 60, 20000},
            {123456789012345L, 60, 50000}};
        for (long[] d : due) {
            Check.same("simulate(" + d[0] + ", " + d[1] + ")", x.simulate(d[0], (int) d[1]), d[2]);
        }
        Subject y = Subject.alone(240, 240, 240, 240);
        y.shoot(0);
        y.shoot(1);
        String before = Looks.of(y);
        int only = y.simulate(5L, 60);
        Check.same("simulate changes nothing", Looks.of(y), before);
        Check.same("simulate again", y.simulate(5L, 60), only);
        // The first turns of seed 0 are shoot(5), extra(0, 0), extra(0, 6), set(0, ..), shoot(5).
        Subject z = Subject.alone(240, 240, 10, 10, 10, 10);
        Check.same("one turn", z.simulate(0L, 1), 10000);
        Check.same("five turns", z.simulate(0L, 5), 10000);
        z.shoot(0);
        z.shoot(1);
        Check.same("only the penalties in the turns", z.simulate(0L, 1), 10001);
        z.set(0, 489);
        Check.same("what cannot be done is left out", z.simulate(0L, 1), 0);
        Check.same("the fourth turn sets the day to 379 minutes", longDay(139).simulate(0L, 5), 10001);
        Check.same("a minute too many", longDay(140).simulate(0L, 5), 0);
    }

    private static Subject longDay(int minutes) {
        Subject x = new Subject();
        x.extra(1, 0);
        for (int s = 0; s < 6; s++) {
            x.scene(1, 1, s, 0, s == 5 ? minutes : 240);
        }
        x.shoot(0);
        x.set(0, 240);
        return x;
    }

    private static void save() {
        Subject x = Subject.alone(240, 240);
        Check.same("save of no shot scene", x.save(0), 0);
        x.shoot(0);
        Check.same("save", x.save(1), 1);
        Check.same("save again in the same", x.save(1), 1);
        for (int wrong : new int[] {-1, 2, FAR[0], FAR[1]}) {
            Check.refuses("save(" + wrong + ")", x, INDEX, o -> o.save(wrong));
        }
        Check.same("save is no action and forgets none", x.undo(), 3);
        Check.same("each slot its own", x.restore(1), 1);
        Check.same("each slot its own", x.restore(0), 0);
    }

    private static void restore() {
        Subject x = Subject.alone(240, 240);
        Check.refuses("restore of nothing", x, STATE, o -> o.restore(0));
        Check.refuses("restore of nothing", x, STATE, o -> o.restore(1));
        for (int wrong : new int[] {-1, 2, FAR[0], FAR[1]}) {
            Check.refuses("restore(" + wrong + ")", x, INDEX, o -> o.restore(wrong));
        }
        x.shoot(0);
        x.save(0);
        String kept = Looks.of(x);
        Check.refuses("restore of the other slot", x, STATE, o -> o.restore(1));
        x.shoot(1);
        x.set(1, 99);
        x.extra(4, 4);
        x.nextDay();
        Check.same("restore", x.restore(0), 1);
        Check.same("all as it was", Looks.of(x), kept);
        Check.refuses("nothing is remembered", x, STATE, o -> o.undo());
        x.shoot(1);
        Check.same("one action since", x.undo(), 0);
        x.nextDay();
        Check.same("the slot keeps it", x.restore(0), 1);
        Check.same("all as it was", Looks.of(x), kept);
        x.write("Fmm");
        x.restore(0);
        Check.same("the text stays", x.clearText(), 3);
        x.clearText();
        x.append('F');
        x.load();
        Check.refuses("load empties the slots", x, STATE, o -> o.restore(0));
    }
}
