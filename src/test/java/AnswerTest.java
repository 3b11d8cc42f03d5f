/** Promises 6 to 9 and 18 to 22, on what there is and what would be: each sentence at its bounds. */
public final class AnswerTest {
    private static final Class<IllegalArgumentException> ARGUMENT = Check.ARGUMENT;
    private static final Class<IndexOutOfBoundsException> INDEX = Check.INDEX;
    private static final int NONE = CrowdFaces.NONE;
    private static final int FAR_BELOW = Integer.MIN_VALUE;
    private static final int FAR_ABOVE = Integer.MAX_VALUE;

    private AnswerTest() {
    }

    public static void main(String[] args) {
        about();
        aboutOneByOne();
        facesThatOneHas();
        extraOf();
        extraOfOneByOne();
        sceneOf();
        sceneOfOneByOne();
        setting();
        theseChangeNothing();
        would();
        wouldIsWhatShootingBrings();
        whyIndexes();
        whyLook();
        whyMinutes();
        whyBarred();
        whyShotOrNotToBeShot();
        whyTwinOrFull();
        cheapestOfSeveral();
        cheapestWithPenalties();
        cheapestNone();
        lacksByHowMany();
        lacksOfAShotScene();
        orderThrows();
        orderOfTwo();
        orderNone();
        orderIsOfNow();
        Check.finish();
    }

    private static void whyIs(Subject x, int s, int... due) {
        for (int e = 0; e < due.length; e++) {
            Check.same("why(" + s + ", " + e + ")", x.why(s, e), due[e]);
        }
    }

    // ---- what there is

    private static void about() {
        Check.sentence("Throws IllegalArgumentException if what is not 0 to 8");
        Check.range("about", Subject.loaded("Fe000s0100010g0"), ARGUMENT, 0, 8, v -> o -> o.about(v));
        Check.range("about of a new film", new Subject(), ARGUMENT, 0, 8, v -> o -> o.about(v));
    }

    private static void aboutOneByOne() {
        Check.sentence("0: the extras; 1: the scenes; 2: those that have been shot; 3: the days so far (0 on the first "
                + "one); 4: the wages so far; 5: what penalties cost so far; 6: the penalties so far; 7: the breaks "
                + "so far; 8: the faces that at least one extra has");
        Subject x = new Subject();
        Check.abouts(x, 0, 0, 0, 0, 0, 0, 0, 0, 0);
        x.extra(0, 3);
        Check.abouts(x, 1, 0, 0, 0, 0, 0, 0, 0, 1);
        x.scene(0, 1, 0, 0, 240);
        Check.abouts(x, 1, 1, 0, 0, 0, 0, 0, 0, 1);
        x.shoot(0);
        Check.abouts(x, 1, 1, 1, 0, 40, 0, 0, 0, 1);
        x.scene(0, 1, 1, 0, 151);
        x.shoot(1);
        Check.abouts(x, 1, 2, 2, 0, 70, 10, 2, 0, 1);
        x.set(0, 960);
        x.set(2, 0);
        x.scene(0, 1, 2, 0, 30);
        x.shoot(2);
        Check.abouts(x, 1, 3, 3, 0, 80, 10, 3, 0, 1);
        x.extra(1, 3);
        Check.abouts(x, 2, 3, 3, 0, 80, 10, 3, 0, 1);
        x.extra(1, 4);
        x.replace(0, 0, x.extra(0, 5));
        Check.abouts(x, 4, 3, 3, 0, 80, 10, 3, 0, 3);
        x.scene(1, 1, 0, 0, 60);
        x.shoot(3);
        Check.abouts(x, 4, 4, 4, 0, 90, 10, 3, 1, 3);
        x.nextDay();
        Check.abouts(x, 4, 4, 4, 1, 90, 10, 3, 1, 3);
        x.meal();
        Check.abouts(x, 4, 4, 4, 1, 90, 10, 3, 1, 3);
    }

    private static void facesThatOneHas() {
        Check.sentence("8: the faces that at least one extra has");
        Subject x = new Subject();
        int[] faces = {0, 0, 13, 13, 0, 7, 1, 12, 7, 2, 3, 4, 5, 6};
        int[] due = {1, 1, 2, 2, 2, 3, 4, 5, 5, 6, 7, 8, 9, 10};
        for (int e = 0; e < 14; e++) {
            x.extra(e % 5, faces[e]);
            Check.same("faces of " + (e + 1), x.about(8), due[e]);
        }
    }

    private static void extraOf() {
        Subject x = Subject.loaded("Fe000e101e202");
        Check.sentence("Throws IndexOutOfBoundsException if there is no such extra");
        for (int e : new int[] {-1, 3, 4, 13, 14, 32, FAR_BELOW, FAR_ABOVE}) {
            Check.refuses("extraOf(" + e + ", 0)", x, INDEX, o -> o.extraOf(e, 0));
            Check.refuses("extraOf(" + e + ", 6)", x, INDEX, o -> o.extraOf(e, 6));
            Check.refuses("extraOf(" + e + ", 7)", x, INDEX, o -> o.extraOf(e, 7));
        }
        Check.refuses("in a new film", new Subject(), INDEX, o -> o.extraOf(0, 0));
        Check.sentence("Throws IllegalArgumentException if what is not 0 to 6");
        Check.range("the first", x, ARGUMENT, 0, 6, v -> o -> o.extraOf(0, v));
        Check.range("the last", x, ARGUMENT, 0, 6, v -> o -> o.extraOf(2, v));
    }

    private static void extraOfOneByOne() {
        Check.sentence("0: the look; 1: the face; 2: the minutes of work on the day of now; 3: those since the latest "
                + "meal; 4: the scenes in whose crowds this extra is; 5: the other extras with the same face, as a "
                + "set; 6: what this extra earned so far (wages and penalties, also for crowds in which another one "
                + "is now)");
        Subject x = Subject.loaded("Fe413e000e013e113e200s4190010s0100240s0100240");
        Check.extraIs(x, 0, 4, 13, 0, 0, 0, 0b01100, 0);
        Check.extraIs(x, 1, 0, 0, 0, 0, 0, 0b10000, 0);
        Check.extraIs(x, 2, 0, 13, 0, 0, 0, 0b01001, 0);
        Check.extraIs(x, 3, 1, 13, 0, 0, 0, 0b00101, 0);
        Check.extraIs(x, 4, 2, 0, 0, 0, 0, 0b00010, 0);
        x.shoot(1);
        x.shoot(2);
        Check.extraIs(x, 1, 0, 0, 480, 480, 2, 0b10000, 80 + 20);
        x.meal();
        Check.extraIs(x, 1, 0, 0, 480, 0, 2, 0b10000, 100);
        x.replace(2, 1, 2);
        Check.extraIs(x, 1, 0, 0, 480, 0, 1, 0b10000, 100);
        Check.extraIs(x, 2, 0, 13, 0, 0, 1, 0b01001, 0);
        x.replace(1, 1, 2);
        Check.extraIs(x, 1, 0, 0, 480, 0, 0, 0b10000, 100);
        Check.extraIs(x, 2, 0, 13, 0, 0, 2, 0b01001, 0);
        x.nextDay();
        Check.extraIs(x, 1, 0, 0, 0, 0, 0, 0b10000, 100);
        x.shoot(0);
        Check.extraIs(x, 0, 4, 13, 10, 10, 1, 0b01100, 10);
        Subject ten = Subject.loaded("Fe000" + "s0100010".repeat(10));
        for (int s = 0; s < 10; s++) {
            ten.shoot(s);
            Check.extraIs(ten, 0, 0, 0, 10 * s + 10, 10 * s + 10, s + 1, 0, 10 * s + 10);
        }
    }

    private static void sceneOf() {
        Subject x = Subject.loaded("Fe000s0100010s4693240g0");
        Check.sentence("Throws IndexOutOfBoundsException if there is no such scene");
        for (int s : new int[] {-1, 2, 3, 9, 10, 32, FAR_BELOW, FAR_ABOVE}) {
            Check.refuses("sceneOf(" + s + ", 0)", x, INDEX, o -> o.sceneOf(s, 0));
            Check.refuses("sceneOf(" + s + ", 8)", x, INDEX, o -> o.sceneOf(s, 8));
            Check.refuses("sceneOf(" + s + ", 9)", x, INDEX, o -> o.sceneOf(s, 9));
        }
        Check.refuses("in a new film", new Subject(), INDEX, o -> o.sceneOf(0, 0));
        Check.sentence("Throws IllegalArgumentException if what is not 0 to 8");
        Check.range("a shot one", x, ARGUMENT, 0, 8, v -> o -> o.sceneOf(0, v));
        Check.range("the last", x, ARGUMENT, 0, 8, v -> o -> o.sceneOf(1, v));
    }

    private static void sceneOfOneByOne() {
        Check.sentence("0: the look; 1: how many it wants; 2: its story day; 3: its place; 4: its minutes; 5: 1 if it "
                + "has been shot, otherwise 0; 6: its crowd, as a set, 0 if it has not been shot; 7: its known faces, "
                + "as a set; 8: its barred faces, as a set");
        Subject x = Subject.loaded("Fe405e403e100s4293240s4192010s1193060");
        Check.sceneIs(x, 0, 4, 2, 9, 3, 240, 0, 0, 0, 0);
        Check.sceneIs(x, 1, 4, 1, 9, 2, 10, 0, 0, 0, 0);
        Check.sceneIs(x, 2, 1, 1, 9, 3, 60, 0, 0, 0, 0);
        x.shoot(0);
        Check.sceneIs(x, 0, 4, 2, 9, 3, 240, 1, 0b11, 0, 0);
        Check.sceneIs(x, 1, 4, 1, 9, 2, 10, 0, 0, 0, 0b101000);
        Check.sceneIs(x, 2, 1, 1, 9, 3, 60, 0, 0, 0b101000, 0);
        x.shoot(2);
        Check.sceneIs(x, 0, 4, 2, 9, 3, 240, 1, 0b11, 1, 0);
        Check.sceneIs(x, 1, 4, 1, 9, 2, 10, 0, 0, 0, 0b101001);
        Check.sceneIs(x, 2, 1, 1, 9, 3, 60, 1, 0b100, 0b101000, 0);
    }

    private static void setting() {
        Check.sentence("Returns a setting. what: 0 to 2. Throws IllegalArgumentException if what is out of range");
        Check.range("setting", new Subject(), ARGUMENT, 0, 2, v -> o -> o.setting(v));
        Subject x = new Subject();
        int[] due = {600, 10, 5};
        for (int what = 0; what < 3; what++) {
            Check.same("at first", x.setting(what), due[what]);
        }
        for (int what = 0; what < 3; what++) {
            due[what] = 240 / (1 + 3 * what);
            x.set(what, due[what]);
            for (int k = 0; k < 3; k++) {
                Check.same("setting(" + k + ")", x.setting(k), due[k]);
            }
        }
    }

    // ---- what would be

    private static void theseChangeNothing() {
        Check.sentence("what would be; these and all following methods up to the save slots change nothing");
        Subject x = TextTest.rich();
        x.scene(0, 1, 5, 0, 61);
        x.scene(0, 1, 6, 0, 240);
        Subject.Step[] calls = {o -> o.would(6, 0), o -> o.would(6, 1), o -> o.would(6, 2), o -> o.would(6, 3),
            o -> o.would(0, 0), o -> o.why(6, 0), o -> o.why(0, 0), o -> o.cheapest(), o -> o.lacks(6),
            o -> o.lacks(0), o -> o.order(6, 7), o -> o.order(7, 6), o -> o.order(0, 6), o -> o.runScript(1, 16000L),
            o -> o.runScript(3, 300002000016000L), o -> o.runScript(3, 502405100152000L),
            o -> o.runScript(2, 4101060000L), o -> o.runScript(1, 0L), o -> o.simulate(1L, 1), o -> o.simulate(3L, 60),
            o -> o.about(4), o -> o.extraOf(0, 6), o -> o.sceneOf(0, 8), o -> o.setting(1), o -> o.errorPosition()};
        for (int k = 0; k < calls.length; k++) {
            Check.same("call " + k + " changes nothing", Looks.all(x, calls[k]), x.looks());
        }
    }

    private static void would() {
        Subject x = Subject.loaded("Fe000e001e002s0200240s0300240s0400010s1100010g0");
        Check.sentence("Throws IndexOutOfBoundsException if there is no such scene");
        for (int s : new int[] {-1, 4, 5, 10, FAR_BELOW, FAR_ABOVE}) {
            Check.refuses("would(" + s + ", 0)", x, INDEX, o -> o.would(s, 0));
            Check.refuses("would(" + s + ", 4)", x, INDEX, o -> o.would(s, 4));
        }
        Check.sentence("Throws IllegalArgumentException if what is not 0 to 3");
        Check.range("of a shot one", x, ARGUMENT, 0, 3, v -> o -> o.would(0, v));
        Check.range("of one that can be shot", x, ARGUMENT, 0, 3, v -> o -> o.would(1, v));
        Check.range("of one that cannot", x, ARGUMENT, 0, 3, v -> o -> o.would(2, v));
        Check.sentence("NONE if it has been shot, or cannot be shot.");
        Check.wouldBe(x, 0, NONE, NONE, NONE, NONE);
        Check.wouldBe(x, 2, NONE, NONE, NONE, NONE);
        Check.wouldBe(x, 3, NONE, NONE, NONE, NONE);
        Check.sentence("0: its crowd, as a set; 1: the wages; 2: what penalties would cost; 3: the breaks");
        Check.wouldBe(x, 1, 0b111, 3 * 40, 2 * 4 * 5, 0);
        x.set(1, 99);
        Check.wouldBe(x, 1, 0b111, 3 * 4 * 99, 40, 0);
        x.set(2, 0);
        Check.wouldBe(x, 1, 0b111, 3 * 4 * 99, 0, 0);
        x.set(2, 99);
        Check.wouldBe(x, 1, 0b111, 3 * 4 * 99, 8 * 99, 0);
        x.extra(1, 3);
        Check.wouldBe(x, 3, 0b1000, 99, 0, 2);
        x.meal();
        Check.wouldBe(x, 1, 0b111, 3 * 4 * 99, 0, 0);
        x.set(0, 479);
        Check.wouldBe(x, 1, NONE, NONE, NONE, NONE);
        x.set(0, 480);
        Check.wouldBe(x, 1, 0b111, 3 * 4 * 99, 0, 0);
    }

    private static void wouldIsWhatShootingBrings() {
        Check.sentence("Tells what shooting a scene now would bring.");
        Subject x = Subject.loaded("Fe000e001e102e100s0200240s0100130s1100121s1200150s0110061");
        for (int s = 0; s < 5; s++) {
            int[] due = {x.would(s, 0), x.would(s, 1), x.would(s, 2), x.would(s, 3)};
            int[] before = {x.about(4), x.about(5), x.about(7)};
            Check.same("the crowd", x.shoot(s), due[0]);
            Check.same("the wages", x.about(4) - before[0], due[1]);
            Check.same("what penalties cost", x.about(5) - before[1], due[2]);
            Check.same("the breaks", x.about(7) - before[2], due[3]);
        }
        Check.abouts(x, 4, 5, 5, 0, 80 + 30 + 30 + 60 + 20, 5, 1, 3, 3);
    }

    // ---- why

    private static void whyIndexes() {
        Check.sentence("Throws IndexOutOfBoundsException if there is no such scene or extra");
        Subject x = Subject.loaded("Fe000e001s0100010s0100010s0100010g0");
        for (int v : new int[] {-1, 3, 10, 14, FAR_BELOW, FAR_ABOVE}) {
            Check.refuses("scene " + v, x, INDEX, o -> o.why(v, 0));
            Check.refuses("extra " + v, x, INDEX, o -> o.why(0, v));
            Check.refuses("both " + v, x, INDEX, o -> o.why(v, v));
        }
        Check.refuses("extra 2", x, INDEX, o -> o.why(1, 2));
        Check.same("extra 1", x.why(1, 1), 6);
        Check.same("scene 2", x.why(2, 0), 0);
        Check.refuses("no scenes", Subject.loaded("Fe000"), INDEX, o -> o.why(0, 0));
        Check.refuses("no extras", Subject.loaded("Fs0100010"), INDEX, o -> o.why(0, 0));
    }

    private static void whyLook() {
        Check.sentence("Returns the first of these that is so: 1: the look does not fit");
        Subject x = Subject.loaded("Fe100e000e001e200s1100240s0100010s0201010s0210010s1110010g0");
        // Scene 1 cannot take face 0 twice; scene 2, at another place, has face 0 barred and is too large.
        whyIs(x, 0, 4, 1, 1, 1);
        whyIs(x, 1, 1, 0, 6, 1);
        whyIs(x, 2, 1, 3, 4, 1);
        whyIs(x, 3, 1, 0, 0, 1);
        x.set(0, 240);
        whyIs(x, 4, 2, 1, 1, 1);
        Check.same("the look comes before the minutes", x.why(1, 0), 1);
    }

    private static void whyMinutes() {
        Check.sentence("2: the minutes of the day would be too many");
        Subject x = Subject.loaded("Fe000e001s0100110s0201130s0500131s0110129s0110130s0110131g0");
        x.set(0, 240);
        Check.same("130 more: barred", x.why(1, 0), 3);
        Check.same("131 more: too many before it cannot be shot", x.why(2, 0), 2);
        Check.same("it cannot be shot", x.why(2, 1), 4);
        Check.same("129 more", x.why(3, 0), 6);
        Check.same("130 more", x.why(4, 0), 6);
        Check.same("131 more", x.why(5, 0), 2);
        Check.same("the other one", x.why(5, 1), 0);
        Check.same("the other one, in a scene that cannot be shot", x.why(1, 1), 4);
        x.set(0, 241);
        Check.same("131 more of 241", x.why(2, 0), 4);
        Check.same("131 more of 241", x.why(5, 0), 6);
        x.set(0, 240);
        Check.same("shot: 110 more", x.why(0, 0), 4);
        x.set(0, 240);
        x.scene(0, 1, 0, 1, 131);
        Check.same("131 more: too many before barred", x.why(6, 0), 2);
        x.shoot(3);
        Check.same("the other one has 129", x.why(5, 1), 2);
        x.shoot(4);
        Check.same("shot, with too many minutes", x.why(0, 0), 2);
        Check.same("shot", x.why(3, 1), 2);
    }

    private static void whyBarred() {
        Check.sentence("3: the face is barred");
        Subject x = Subject.loaded("Fe000e001e000s0100010s0101010s0301010s0112010g0");
        whyIs(x, 1, 3, 0, 3);
        whyIs(x, 2, 3, 4, 3);
        whyIs(x, 3, 6, 0, 6);
        x.shoot(1);
        whyIs(x, 0, 4, 3, 4);
        whyIs(x, 1, 3, 4, 3);
    }

    private static void whyShotOrNotToBeShot() {
        Check.sentence("4: the scene has been shot, or cannot be shot");
        Subject x = Subject.loaded("Fe000e001e001s0100010s0200010s0300010g0");
        whyIs(x, 0, 4, 4, 4);
        whyIs(x, 1, 0, 0, 5);
        whyIs(x, 2, 4, 4, 4);
        x.extra(0, 2);
        whyIs(x, 2, 0, 0, 5, 0);
        x.shoot(2);
        whyIs(x, 2, 4, 4, 4, 4);
    }

    private static void whyTwinOrFull() {
        Check.sentence("5: another one with the same face is in its crowd, if it was shot now; 6: the crowd is full "
                + "without this one; 0: none of these, the extra would be in it.");
        Subject x = Subject.loaded("Fe000e000e001e001e002s0100010s0200010s0300010");
        whyIs(x, 0, 0, 5, 6, 6, 6);
        whyIs(x, 1, 0, 5, 0, 5, 6);
        whyIs(x, 2, 0, 5, 0, 5, 0);
        x.shoot(0);
        whyIs(x, 1, 0, 5, 0, 5, 6);
        x.replace(0, 0, 3);
        whyIs(x, 1, 5, 0, 0, 5, 6);
        Check.same("its crowd", x.would(1, 0), 0b00110);
    }

    // ---- cheapest

    private static void cheapestOfSeveral() {
        Check.sentence("the one with the least wages and costs of penalties together, of several the lowest");
        Subject x = Subject.loaded("Fe000e001e002s0300060s0210061s0120121s0230060s0140120s0150061");
        // 30, 40, 30, 20, 20 and 20.
        Check.same("the lowest of three with 20", x.cheapest(), 3);
        x.shoot(3);
        Check.same("the lowest of two with 20", x.cheapest(), 4);
        x.shoot(4);
        Check.same("the last with 20", x.cheapest(), 5);
        x.shoot(5);
        Check.same("the lowest of two with 30", x.cheapest(), 0);
        x.shoot(0);
        Check.same("30", x.cheapest(), 2);
        x.shoot(2);
        Check.same("40", x.cheapest(), 1);
        x.undo();
        x.scene(0, 2, 7, 0, 60);
        x.scene(0, 1, 8, 0, 240);
        Check.same("20 again", x.cheapest(), 6);
        x.set(1, 1);
        Check.same("2", x.cheapest(), 6);
    }

    private static void cheapestWithPenalties() {
        Check.sentence("wages and costs of penalties together");
        Subject x = Subject.loaded("Fe000e101s0100240s0110180");
        x.set(1, 9);
        x.set(2, 6);
        x.scene(0, 1, 2, 0, 10);
        x.scene(1, 1, 3, 0, 180);
        x.shoot(0);
        x.shoot(1);
        Check.same("420 minutes", x.about(6), 2);
        Check.same("430 minutes: one more", x.would(2, 2), 6);
        Check.same("15 or 27", x.cheapest(), 2);
        x.set(2, 18);
        Check.same("27 or 27: the lowest", x.cheapest(), 2);
        x.set(2, 19);
        Check.same("28 or 27", x.cheapest(), 3);
        // Each: the minutes of scene 1 behind 240, what it costs, and which is cheaper, it or scene 2 with 8.
        int[][] ends = {{119, 4, 1}, {120, 4, 1}, {121, 7, 1}, {150, 7, 1}, {151, 8, 1}, {180, 8, 1}, {181, 11, 2}};
        for (int[] end : ends) {
            Subject y = Subject.loaded("Fe000e101s0100240");
            y.set(1, 2);
            y.set(2, 1);
            y.scene(0, 1, 2, 0, end[0]);
            y.scene(1, 1, 3, 0, 240);
            y.shoot(0);
            Check.same("wages and penalties", y.would(1, 1) + y.would(1, 2), end[1]);
            Check.same("240 and " + end[0], y.cheapest(), end[2]);
        }
    }

    private static void cheapestNone() {
        Check.sentence("NONE if there is none.");
        Check.same("no scene", new Subject().cheapest(), NONE);
        Check.same("no extra", Subject.loaded("Fs0100010").cheapest(), NONE);
        Check.same("all have been shot", Subject.loaded("Fe000s0100010s0100010g0g1").cheapest(), NONE);
        Check.same("none can be shot", Subject.loaded("Fe000s0200010s0300010s1100010").cheapest(), NONE);
        Check.same("the last one alone", Subject.loaded("Fe000s0200010s0300010s0100240").cheapest(), 2);
        Check.same("the tenth alone", Subject.loaded("Fe000" + "s0200010".repeat(9) + "s0100010").cheapest(), 9);
        Subject x = Subject.alone(240, 240);
        x.set(0, 479);
        Check.same("the first", x.cheapest(), 0);
        x.shoot(0);
        Check.same("none has time", x.cheapest(), NONE);
        x.set(0, 480);
        Check.same("one has time", x.cheapest(), 1);
    }

    // ---- lacks

    private static void lacksByHowMany() {
        Check.sentence("Returns by how many its crowd would be too small, if it was chosen now, by the minutes of work "
                + "as they are; 0 if by none.");
        for (int many = 1; many <= 6; many++) {
            Subject x = new Subject();
            x.scene(0, many, 0, 0, 10);
            for (int e = 0; e < 8; e++) {
                Check.same(e + " for " + many, x.lacks(0), Math.max(0, many - e));
                x.extra(0, e);
            }
        }
        Subject x = Subject.loaded("Fe000e000e101e002s0400240s0300010s0301010s0310010g1");
        Check.same("two faces for four", x.lacks(0), 2);
        Check.refuses("it was not shot", x, Check.STATE, o -> o.shoot(1));
        x.extra(0, 3);
        x.set(0, 240);
        x.scene(0, 1, 4, 0, 240);
        x.shoot(4);
        Check.same("a twin of who has no time", x.lacks(1), 0);
        Check.same("and one of another look", x.lacks(0), 1);
        Check.sentence("Throws IndexOutOfBoundsException if there is no such scene");
        for (int s : new int[] {-1, 5, 6, 10, FAR_BELOW, FAR_ABOVE}) {
            Check.refuses("lacks(" + s + ")", x, INDEX, o -> o.lacks(s));
        }
        Check.refuses("no scene", new Subject(), INDEX, o -> o.lacks(0));
    }

    private static void lacksOfAShotScene() {
        Check.sentence("(whether it has been shot or not, and without its own crowd, if it has)");
        Subject x = Subject.loaded("Fe000e001s0200240s0101010g0");
        Check.same("its own crowd may be chosen again", x.lacks(0), 0);
        Check.same("both are barred", x.lacks(1), 1);
        x.set(0, 480);
        Check.same("480 minutes together", x.lacks(0), 0);
        x.set(0, 479);
        Check.same("a minute too many", x.lacks(0), 2);
        x.extra(0, 0);
        Check.same("a twin with time", x.lacks(0), 1);
        x.extra(0, 3);
        Check.same("and another one", x.lacks(0), 0);
        x.nextDay();
        Check.same("the next day", x.lacks(0), 0);
        Subject y = Subject.loaded("Fe000e001e002s0200010s0101010g0g1");
        Check.same("face 2 is elsewhere, 0 and 1 are its own", y.lacks(0), 0);
        y.replace(1, 2, y.extra(0, 5));
        Check.same("face 5 is elsewhere", y.lacks(0), 0);
        Subject z = Subject.loaded("Fe000e001e000s0200010s0101010g0");
        z.replace(0, 0, 2);
        Check.same("all faces of its own", z.lacks(0), 0);
        Check.same("elsewhere", z.lacks(1), 1);
    }

    // ---- order

    private static void orderThrows() {
        Subject x = Subject.loaded("Fe000e001s0100010s0110010s0120010g2");
        Check.sentence("Throws IndexOutOfBoundsException if there is no such scene");
        for (int s : new int[] {-1, 3, 4, 10, FAR_BELOW, FAR_ABOVE}) {
            Check.refuses("order(" + s + ", 0)", x, INDEX, o -> o.order(s, 0));
            Check.refuses("order(0, " + s + ")", x, INDEX, o -> o.order(0, s));
            Check.refuses("order(" + s + ", " + s + ")", x, INDEX, o -> o.order(s, s));
        }
        Check.sentence("Throws IllegalArgumentException if both are the same");
        for (int s = 0; s < 3; s++) {
            int same = s;
            Check.refuses("order(" + s + ", " + s + ")", x, ARGUMENT, o -> o.order(same, same));
        }
        Check.same("two others", x.order(0, 1), 2);
    }

    /** Extra 0 has worked 350 minutes without a meal; extra 1 had one behind 360 minutes. Scenes 5 and 6: 10 and 40. */
    private static Subject lateIsLower() {
        // A twin of extra 0 plays elsewhere, so that extra 1 alone can play scenes 1 and 2.
        Subject x = Subject.loaded("Fe000e001e100s1101010s0100240s0100120s0110240s0120110s0130010s0140040g0g1g2mg3g4");
        Check.extraIs(x, 0, 0, 0, 350, 350);
        Check.extraIs(x, 1, 0, 1, 360, 0);
        return x;
    }

    /** Extra 0 had a meal behind 360 minutes; extra 1 has worked 350 without one. Scenes 4 and 5: 10 and 40. */
    private static Subject lateIsHigher() {
        Subject x = Subject.loaded("Fe000s0100240s0110120s0120240s0130110s0140010s0150040g0g1me001g2g3");
        Check.extraIs(x, 0, 0, 0, 360, 0);
        Check.extraIs(x, 1, 0, 1, 350, 350);
        return x;
    }

    /** What both cost, told by shooting them on an object that is made again. */
    private static int pairCost(Subject x, int first, int second) {
        CrowdFaces made = x.again();
        int before = made.about(4) + made.about(5);
        made.shoot(first);
        made.shoot(second);
        return made.about(4) + made.about(5) - before;
    }

    private static void orderOfTwo() {
        Check.sentence("Returns 0 if shooting a, then b, would cost less than shooting b, then a, in wages and "
                + "penalties together; 1 if it would cost more; 2 if both cost the same");
        Subject x = lateIsLower();
        // 10, then 40: extra 0 and, with 360 both, extra 0: 400 minutes. 40, then 10: extra 0 at 390, then extra 1.
        Check.same("10, then 40", pairCost(x, 5, 6), 10 + 10 + 2 * 5);
        Check.same("40, then 10", pairCost(x, 6, 5), 10 + 10 + 5);
        Check.same("more", x.order(5, 6), 1);
        Check.same("less", x.order(6, 5), 0);
        Subject y = lateIsHigher();
        // 10, then 40: extra 1 and, with 360 both, extra 0. 40, then 10: extra 1 at 390, then extra 0.
        Check.same("10, then 40", pairCost(y, 4, 5), 10 + 10);
        Check.same("40, then 10", pairCost(y, 5, 4), 10 + 10 + 5);
        Check.same("less", y.order(4, 5), 0);
        Check.same("more", y.order(5, 4), 1);
        for (Subject z : new Subject[] {x, y}) {
            int a = z == x ? 6 : 4;
            int b = z == x ? 5 : 5;
            z.set(2, 0);
            Check.same("penalties are free", z.order(a, b), 2);
            Check.same("penalties are free", z.order(b, a), 2);
            z.set(2, 1);
            z.set(1, 99);
            Check.same("less by one", z.order(a, b), 0);
            Check.same("more by one", z.order(b, a), 1);
            z.meal();
            Check.same("nobody is late", z.order(a, b), 2);
            Check.same("nobody is late", z.order(b, a), 2);
        }
        Check.same("wages of unlike scenes", Subject.loaded("Fe000e001s0200240s0110010").order(0, 1), 2);
    }

    private static void orderNone() {
        Check.sentence("NONE if in one of these orders they cannot both be shot now.");
        // If extra 0 plays scene 0, its face is barred in scene 1; if scene 1 is first, extra 1 plays scene 0.
        Subject x = Subject.loaded("Fe000e001e100s0100010s1101010");
        Check.same("only in the other order", x.order(0, 1), NONE);
        Check.same("only in this order", x.order(1, 0), NONE);
        x.shoot(1);
        Check.same("the other one can be shot", x.would(0, 0), 0b010);
        x.undo();
        x.shoot(0);
        Check.same("the other one cannot", x.would(1, 0), NONE);
        Check.same("a has been shot", x.order(0, 1), NONE);
        Check.same("b has been shot", x.order(1, 0), NONE);
        Subject both = Subject.loaded("Fe000s0100010s0110010g0g1");
        Check.same("both have been shot", both.order(0, 1), NONE);
        Subject few = Subject.loaded("Fe000e001s0300010s0110010s0400010");
        Check.same("a cannot be shot", few.order(0, 1), NONE);
        Check.same("b cannot be shot", few.order(1, 0), NONE);
        Check.same("neither can", few.order(0, 2), NONE);
        Subject day = Subject.alone(110, 130, 131);
        day.set(0, 240);
        Check.same("240 minutes of 240", day.order(0, 1), 2);
        Check.same("241 minutes of 240", day.order(0, 2), NONE);
        day.set(0, 241);
        Check.same("241 minutes of 241", day.order(2, 0), 2);
    }

    private static void orderIsOfNow() {
        Check.sentence("Finds the order in which scenes are cheapest.");
        Subject x = lateIsLower();
        Check.leaves("order", x, 1, o -> o.order(5, 6));
        Check.leaves("order", x, 0, o -> o.order(6, 5));
        Check.leaves("order of a shot one", x, NONE, o -> o.order(0, 5));
        x.nextDay();
        Check.same("the next day", x.order(5, 6), 2);
        x.undo();
        Check.same("this day", x.order(5, 6), 1);
    }
}
