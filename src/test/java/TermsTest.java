/** The sentences of "Terms" on extras, scenes, crowds, what they cost, and settings: each at its bounds. */
public final class TermsTest {
    private static final Class<IllegalArgumentException> ARGUMENT = Check.ARGUMENT;
    private static final Class<IllegalStateException> STATE = Check.STATE;
    private static final Class<IndexOutOfBoundsException> INDEX = Check.INDEX;
    private static final int NONE = CrowdFaces.NONE;

    private TermsTest() {
    }

    public static void main(String[] args) {
        after511Calls();
        atMost14Extras();
        looksAndFaces();
        firstMinutes();
        firstPenalties();
        atMost10Scenes();
        rangesOfScenes();
        shotOrNot();
        knownFaces();
        barredFaces();
        neverKnownAndBarred();
        theLookFits();
        minutesTogether();
        minutesOfThisDay();
        asManyAsWanted();
        knownByNumbers();
        lowestFreeWithIt();
        ifThereIsOne();
        neitherKnownNorBarred();
        notInTheCrowdAlready();
        fewestMinutes();
        fewestOfThisDay();
        tooFew();
        worksItsMinutes();
        begunHours();
        above360();
        above360AfterMany();
        notCountedYet();
        notCountedTwice();
        costAsSet();
        breaks();
        settings();
        sets();
        Check.finish();
    }

    private static void facesOfScene(Subject x, int s, int known, int barred) {
        Check.same("known of " + s, x.sceneOf(s, 7), known);
        Check.same("barred of " + s, x.sceneOf(s, 8), barred);
    }

    // ---- extras and scenes

    private static void after511Calls() {
        Check.sentence("An object is used for at most 512 calls after it has been made");
        CrowdFaces x = new CrowdFaces();
        for (int k = 1; k <= 511; k++) {
            Check.same("call " + k, x.nextDay(), k);
        }
        Check.same("call 512", x.about(3), 511);
        CrowdFaces y = new CrowdFaces();
        for (int k = 0; k < 256; k++) {
            Check.same("set", y.set(1, 1 + k % 99), k == 0 ? 10 : 1 + (k - 1) % 99);
        }
        for (int k = 0; k < 256; k++) {
            String due = k < 14 ? "" + (13 - k) : "IllegalStateException";
            Check.same("undo", Check.answer(y, o -> o.undo()), due);
        }
    }

    private static void atMost14Extras() {
        Check.sentence("There are at most 14 extras, numbered from 0.");
        Subject x = new Subject();
        for (int e = 0; e < 14; e++) {
            int next = e;
            Check.same("extras before", x.about(0), e);
            Check.refuses("the next one", x, INDEX, o -> o.extraOf(next, 0));
            Check.same("its number", x.extra(e % 5, 13 - e), e);
            Check.extraIs(x, e, e % 5, 13 - e);
        }
        Check.same("14", x.about(0), 14);
        Check.refuses("the 15th", x, STATE, o -> o.extra(0, 0));
        Check.refuses("number 14", x, INDEX, o -> o.extraOf(14, 0));
        x.undo();
        Check.same("room for one again", x.extra(1, 1), 13);
        Check.refuses("and for no other", x, STATE, o -> o.extra(4, 13));
        for (int n = 12; n <= 16; n++) {
            Subject y = new Subject();
            y.write("F" + "e000".repeat(n));
            Check.same("left out of " + n, y.load(), Math.max(0, n - 14));
            Check.same("loaded of " + n, y.about(0), Math.min(n, 14));
        }
    }

    private static void looksAndFaces() {
        Check.sentence("An extra has a look, 0 to 4, and a face, 0 to 13 (several may have one face)");
        Subject x = new Subject();
        x.extra(2, 7);
        Check.range("the look", x, ARGUMENT, 0, 4, v -> o -> o.extra(v, 3));
        Check.range("the face", x, ARGUMENT, 0, 13, v -> o -> o.extra(3, v));
        Subject all = new Subject();
        for (int look = 0; look <= 4; look++) {
            int e = all.extra(look, 13 - look);
            Check.extraIs(all, e, look, 13 - look);
        }
        for (int face = 0; face <= 8; face++) {
            int e = all.extra(4 - face % 5, face);
            Check.extraIs(all, e, 4 - face % 5, face);
        }
        Check.same("14 faces", all.about(8), 14);
        Subject one = new Subject();
        for (int e = 0; e < 14; e++) {
            one.extra(e % 5, 13);
            Check.same("one face", one.about(8), 1);
        }
        for (int e = 0; e < 14; e++) {
            Check.extraIs(one, e, e % 5, 13, 0, 0, 0, 16383 - (1 << e), 0);
        }
    }

    private static void firstMinutes() {
        Check.sentence("minutes of work on the day of now, and minutes since the latest meal, both at first 0");
        Subject x = Subject.loaded("Fe000s0100240s0110130s0120011g0g1");
        Check.extraIs(x, 0, 0, 0, 370, 370, 2, 0, 40 + 30 + 5);
        x.extra(0, 1);
        Check.extraIs(x, 1, 0, 1, 0, 0, 0, 0, 0);
        x.shoot(2);
        Check.extraIs(x, 1, 0, 1, 11, 11, 1, 0, 10);
        x.undo();
        x.undo();
        Check.same("the number of one who was taken back", x.extra(3, 4), 1);
        Check.extraIs(x, 1, 3, 4, 0, 0, 0, 0, 0);
        Subject y = Subject.loaded("Fe000e101s0100240s1100240g0g1");
        y.write("Fe000e101");
        y.load();
        Check.extraIs(y, 0, 0, 0, 0, 0, 0, 0, 0);
        Check.extraIs(y, 1, 1, 1, 0, 0, 0, 0, 0);
        y.nextDay();
        y.meal();
        y.extra(2, 2);
        Check.extraIs(y, 2, 2, 2, 0, 0, 0, 0, 0);
    }

    private static void firstPenalties() {
        Check.sentence("and the penalties that were counted since the latest meal, at first 0");
        Subject x = Subject.loaded("Fe000s0100240s0110240g0g1");
        Check.same("extra 0 has four", x.about(6), 4);
        x.extra(1, 1);
        x.scene(1, 1, 2, 0, 240);
        x.scene(1, 1, 3, 0, 121);
        x.shoot(2);
        Check.wouldBe(x, 3, 0b10, 30, 5);
        x.shoot(3);
        Check.same("extra 1 has one", x.about(6), 5);
        x.write("Fe000s0100240s0110121g0g1");
        x.load();
        Check.same("the first extra of another film", x.about(6), 1);
    }

    private static void atMost10Scenes() {
        Check.sentence("There are at most 10 scenes, numbered from 0.");
        Subject x = new Subject();
        x.extra(0, 0);
        for (int s = 0; s < 10; s++) {
            int next = s;
            Check.same("scenes before", x.about(1), s);
            Check.refuses("the next one", x, INDEX, o -> o.sceneOf(next, 0));
            Check.same("its number", x.scene(s % 5, 1 + s % 6, s, s % 4, 10 + s), s);
            for (int what = 0; what < 5; what++) {
                int[] due = {s % 5, 1 + s % 6, s, s % 4, 10 + s};
                Check.same("its numbers", x.sceneOf(s, what), due[what]);
            }
        }
        Check.same("10", x.about(1), 10);
        Check.refuses("the 11th", x, STATE, o -> o.scene(0, 1, 0, 0, 10));
        Check.refuses("number 10", x, INDEX, o -> o.sceneOf(10, 0));
        x.shoot(0);
        Check.refuses("the 11th, also if one has been shot", x, STATE, o -> o.scene(0, 1, 0, 0, 10));
        x.undo();
        x.undo();
        Check.same("room for one again", x.scene(4, 6, 9, 3, 240), 9);
        Check.refuses("and for no other", x, STATE, o -> o.scene(4, 6, 9, 3, 240));
        for (int n = 8; n <= 12; n++) {
            Subject y = new Subject();
            y.write("F" + "s0100010".repeat(n));
            Check.same("left out of " + n, y.load(), Math.max(0, n - 10));
            Check.same("loaded of " + n, y.about(1), Math.min(n, 10));
        }
    }

    private static void rangesOfScenes() {
        Check.sentence("A scene wants a look and so many extras, 1 to 6; it is on a story day, 0 to 9, at a place, "
                + "0 to 3, and takes 10 to 240 minutes.");
        Subject x = Subject.loaded("Fe000s0100010");
        Check.range("the look", x, ARGUMENT, 0, 4, v -> o -> o.scene(v, 2, 3, 1, 50));
        Check.range("how many", x, ARGUMENT, 1, 6, v -> o -> o.scene(1, v, 3, 1, 50));
        Check.range("the story day", x, ARGUMENT, 0, 9, v -> o -> o.scene(1, 2, v, 1, 50));
        Check.range("the place", x, ARGUMENT, 0, 3, v -> o -> o.scene(1, 2, 3, v, 50));
        Check.range("the minutes", x, ARGUMENT, 10, 240, v -> o -> o.scene(1, 2, 3, 1, v));
        int[][] edges = {{0, 1, 0, 0, 10}, {4, 6, 9, 3, 240}, {1, 2, 1, 1, 11}, {3, 5, 8, 2, 239}};
        for (int[] d : edges) {
            int s = x.scene(d[0], d[1], d[2], d[3], d[4]);
            for (int what = 0; what < 5; what++) {
                Check.same("sceneOf(" + s + ", " + what + ")", x.sceneOf(s, what), d[what]);
            }
        }
    }

    private static void shotOrNot() {
        Check.sentence("It has been shot, and has a crowd then, a set of extras, or it has not.");
        Subject x = Subject.loaded("Fe000e001s0200010s0210010");
        Check.same("not shot", x.sceneOf(0, 5), 0);
        Check.same("no crowd", x.sceneOf(0, 6), 0);
        x.shoot(0);
        Check.same("shot", x.sceneOf(0, 5), 1);
        Check.same("a crowd", x.sceneOf(0, 6), 0b11);
        Check.same("another one is not shot", x.sceneOf(1, 5), 0);
        x.undo();
        Check.same("not shot again", x.sceneOf(0, 5), 0);
        Check.same("no crowd again", x.sceneOf(0, 6), 0);
    }

    // ---- known and barred faces

    /** Six extras of look 0 with faces 0 to 5; scenes 0 and 1 on day 4 at place 1, the others beside them. */
    private static Subject neighbours() {
        return Subject.loaded("Fe000e001e002e003e004e005s0241010s0341010s0131010s0151010s0140010s0142010s0143010"
                + "s0101010s0191010");
    }

    private static void knownFaces() {
        Check.sentence("The known faces of a scene are those of all extras in crowds of other shot scenes of its "
                + "story day and its place");
        Subject x = neighbours();
        for (int s = 0; s < 9; s++) {
            facesOfScene(x, s, 0, 0);
        }
        Check.same("crowd", x.shoot(0), 0b11);
        facesOfScene(x, 0, 0, 0);
        facesOfScene(x, 1, 0b11, 0);
        for (int s : new int[] {2, 3, 7, 8}) {
            facesOfScene(x, s, 0, 0);
        }
        for (int s : new int[] {4, 5, 6}) {
            Check.same("known at another place", x.sceneOf(s, 7), 0);
        }
        Check.same("crowd", x.shoot(1), 0b111);
        facesOfScene(x, 0, 0b111, 0);
        facesOfScene(x, 1, 0b011, 0);
        x.scene(4, 6, 4, 1, 240);
        facesOfScene(x, 9, 0b111, 0);
        x.undo();
        x.replace(1, 2, 5);
        facesOfScene(x, 0, 0b100011, 0);
        facesOfScene(x, 1, 0b000011, 0);
        x.undo();
        x.undo();
        facesOfScene(x, 0, 0, 0);
        facesOfScene(x, 1, 0b11, 0);
        Subject edges = Subject.loaded("Fe013e100s0100010s1100010s0190010s0193010s1193010g0");
        facesOfScene(edges, 1, 1 << 13, 0);
        facesOfScene(edges, 2, 0, 0);
        edges.shoot(3);
        facesOfScene(edges, 4, 1 << 13, 0);
        facesOfScene(edges, 2, 0, 1 << 13);
        facesOfScene(edges, 0, 0, 0);
    }

    private static void barredFaces() {
        Check.sentence("the barred faces are those of all extras in crowds of shot scenes of its story day at "
                + "other places");
        Subject x = neighbours();
        Check.same("crowd", x.shoot(0), 0b11);
        for (int s : new int[] {4, 5, 6}) {
            facesOfScene(x, s, 0, 0b11);
        }
        for (int s : new int[] {0, 2, 3, 7, 8}) {
            Check.same("barred of " + s, x.sceneOf(s, 8), 0);
        }
        Check.same("crowd at another place", x.shoot(4), 0b100);
        facesOfScene(x, 0, 0, 0b100);
        facesOfScene(x, 1, 0b11, 0b100);
        facesOfScene(x, 4, 0, 0b11);
        facesOfScene(x, 5, 0, 0b111);
        Check.same("crowd at a third place", x.shoot(6), 0b1000);
        facesOfScene(x, 0, 0, 0b1100);
        facesOfScene(x, 4, 0, 0b1011);
        facesOfScene(x, 5, 0, 0b1111);
        facesOfScene(x, 6, 0, 0b0111);
        Check.same("crowd of another day", x.shoot(2), 0b10000);
        facesOfScene(x, 5, 0, 0b1111);
        facesOfScene(x, 2, 0, 0);
        x.undo();
        x.undo();
        facesOfScene(x, 5, 0, 0b111);
    }

    private static void neverKnownAndBarred() {
        Check.sentence("that no face is at two places on one story day");
        Subject x = Subject.loaded("Fe000e001e002e000e001e003s0100010s0101010s0201010s0102010s0100010s0103010");
        for (int s = 0; s < 6; s++) {
            if (x.would(s, 0) != NONE) {
                x.shoot(s);
            }
            for (int t = 0; t < 6; t++) {
                Check.same("known and barred of " + t, x.sceneOf(t, 7) & x.sceneOf(t, 8), 0);
                Check.same("of its own barred", facesIn(x, x.sceneOf(t, 6)) & x.sceneOf(t, 8), 0);
            }
        }
        Check.same("five were shot", x.about(2), 5);
    }

    private static int facesIn(Subject x, int crowd) {
        int faces = 0;
        for (int e = 0; e < x.about(0); e++) {
            if ((crowd >> e & 1) == 1) {
                faces |= 1 << x.extraOf(e, 1);
            }
        }
        return faces;
    }

    // ---- the crowd

    private static void theLookFits() {
        Check.sentence("An extra is free for a scene if the look fits");
        Subject x = Subject.loaded("Fe300e101e402e003e204s0100010s1110010s2120010s3130010s4140010");
        int[] crowds = {0b01000, 0b00010, 0b10000, 0b00001, 0b00100};
        for (int s = 0; s < 5; s++) {
            Check.wouldBe(x, s, crowds[s], 10, 0, 0);
            for (int e = 0; e < 5; e++) {
                Check.same("why(" + s + ", " + e + ")", x.why(s, e), (crowds[s] >> e & 1) == 1 ? 0 : 1);
            }
        }
        Subject none = Subject.loaded("Fe100e301s2100010");
        Check.same("looks next to it do not fit", none.would(0, 0), NONE);
        Check.same("lacks", none.lacks(0), 1);
    }

    private static void minutesTogether() {
        Check.sentence("and the minutes of work on this day and those of the scene, together, are not above setting 0");
        // Each: the minutes before, those of the scene, setting 0, and whether it can be shot.
        int[][] days = {{0, 240, 240, 1}, {110, 129, 240, 1}, {110, 130, 240, 1}, {110, 131, 240, 0},
            {230, 10, 240, 1}, {230, 11, 240, 0}, {231, 10, 240, 0}, {240, 10, 240, 0}, {240, 10, 249, 0},
            {240, 10, 250, 1}, {240, 10, 251, 1}, {240, 240, 479, 0}, {240, 240, 480, 1}, {240, 240, 481, 1}};
        for (int[] d : days) {
            Subject x = Subject.alone(d[0] == 0 ? 10 : d[0], d[1]);
            if (d[0] != 0) {
                x.shoot(0);
            }
            x.set(0, d[2]);
            String name = d[0] + " + " + d[1] + " of " + d[2];
            Check.same(name, x.would(1, 0), d[3] == 1 ? 1 : NONE);
            Check.same(name + ", why", x.why(1, 0), d[3] == 1 ? 0 : 2);
            Check.same(name + ", lacks", x.lacks(1), 1 - d[3]);
        }
        Subject first = Subject.alone(240, 240, 119, 120, 121);
        first.shoot(0);
        first.shoot(1);
        Check.same("599 of 600", first.would(2, 0), 1);
        Check.same("600 of 600", first.would(3, 0), 1);
        Check.refuses("601 of 600", first, STATE, o -> o.shoot(4));
        Subject longest = Subject.alone(240, 240, 240, 239, 240);
        longest.set(0, 960);
        for (int s = 0; s < 3; s++) {
            longest.shoot(s);
        }
        Check.same("960 of 960", longest.would(4, 0), 1);
        longest.set(0, 959);
        Check.same("959 of 959", longest.would(3, 0), 1);
        Check.refuses("960 of 959", longest, STATE, o -> o.shoot(4));
        longest.set(0, 719);
        Check.refuses("more before than the setting is now", longest, STATE, o -> o.shoot(3));
    }

    private static void minutesOfThisDay() {
        Check.sentence("the minutes of work on this day");
        Subject x = Subject.alone(240, 240, 240);
        x.set(0, 480);
        x.shoot(0);
        x.shoot(1);
        Check.refuses("a long day", x, STATE, o -> o.shoot(2));
        x.meal();
        Check.refuses("a meal ends no day", x, STATE, o -> o.shoot(2));
        x.nextDay();
        Check.same("the next day", x.shoot(2), 1);
    }

    private static void asManyAsWanted() {
        Check.sentence("until it has as many as the scene wants");
        for (int many = 1; many <= 6; many++) {
            for (int there = many - 1; there <= many + 1; there++) {
                Subject x = new Subject();
                for (int e = 0; e < there; e++) {
                    x.extra(0, e);
                }
                x.scene(0, many, 0, 0, 10);
                int all = (1 << many) - 1;
                String name = many + " of " + there;
                Check.same(name, x.would(0, 0), there < many ? NONE : all);
                Check.same(name + ", lacks", x.lacks(0), there < many ? 1 : 0);
                if (there >= many) {
                    Check.same(name + ", shot", x.shoot(0), all);
                }
            }
        }
    }

    private static void knownByNumbers() {
        Check.sentence("for each known face, by numbers, that is not barred");
        // Faces 5, 2, 9 have been seen; extra 3, face 0, has not worked.
        Subject x = Subject.loaded("Fe005e002e009s0300010g0e000s0100010s0200010s0300010s0400010s0500010");
        Check.wouldBe(x, 1, 0b0010, 10, 0, 2);
        Check.wouldBe(x, 2, 0b0011, 20, 0, 1);
        Check.wouldBe(x, 3, 0b0111, 30, 0, 0);
        Check.wouldBe(x, 4, 0b1111, 40, 0, 0);
        Check.wouldBe(x, 5, NONE, NONE, NONE, NONE);
        Check.same("lacks", x.lacks(5), 1);
        Subject high = Subject.loaded("Fe013e012e000s0200010g0s0100010s0200010s0300010");
        Check.wouldBe(high, 1, 0b010, 10, 0, 1);
        Check.wouldBe(high, 2, 0b011, 20, 0, 0);
        Check.wouldBe(high, 3, 0b111, 30, 0, 0);
        Subject low = Subject.loaded("Fe001e000e002s0200010g0s0100010");
        Check.wouldBe(low, 1, 0b010, 10, 0, 1);
    }

    private static void lowestFreeWithIt() {
        Check.sentence("the lowest free extra with it, if there is one");
        Subject x = Subject.loaded("Fe003e003e103e003s0100240g0s0100010s1100010s2100010");
        Check.same("the lowest, though the others have fewer minutes", x.would(1, 0), 0b0001);
        Check.same("the lowest with the look", x.would(2, 0), 0b0100);
        Check.same("none with the look", x.would(3, 0), NONE);
        x.set(0, 249);
        Check.same("the lowest with time", x.would(1, 0), 0b0010);
        x.set(0, 250);
        Check.same("just time enough", x.would(1, 0), 0b0001);
        x.set(0, 240);
        x.scene(0, 1, 5, 0, 240);
        Check.same("another twin works all day", x.shoot(4), 0b0010);
        Check.same("the third twin", x.would(1, 0), 0b1000);
    }

    private static void ifThereIsOne() {
        Check.sentence("the lowest free extra with it, if there is one");
        Subject x = Subject.loaded("Fe001e002e003e004s0200240g0s0200010s0300010");
        x.set(0, 240);
        Check.same("none with a known face has time", x.would(1, 0), 0b1100);
        Check.same("breaks", x.would(1, 3), 2);
        Check.same("two are not enough", x.would(2, 0), NONE);
        Check.same("lacks", x.lacks(2), 1);
        Subject next = Subject.loaded("Fe101e002e003s1100010s0100010g0g1s0100010s0200010");
        Check.same("face 1 has another look: face 2", next.would(2, 0), 0b010);
        Check.same("face 1 has another look: face 2, and face 3", next.would(3, 0), 0b110);
    }

    private static void neitherKnownNorBarred() {
        Check.sentence("then of the free extras whose face is neither known nor barred");
        Subject x = Subject.loaded("Fe001e001e002s0100010g0s0101010s0201010s0200010s0300010");
        Check.same("barred, and a twin of a barred one", x.would(1, 0), 0b100);
        Check.same("barred", x.why(1, 0), 3);
        Check.same("a twin of a barred one", x.why(1, 1), 3);
        Check.same("one is not enough", x.would(2, 0), NONE);
        Check.same("lacks", x.lacks(2), 1);
        Check.same("a twin of a known one", x.would(3, 0), 0b101);
        Check.same("two faces for three", x.would(4, 0), NONE);
        Check.same("lacks", x.lacks(4), 1);
        Subject day = Subject.loaded("Fe001s0100010g0s0111010s0191010");
        Check.same("barred on its story day alone", day.would(1, 0), 0b1);
        Check.same("barred on its story day alone", day.would(2, 0), 0b1);
    }

    private static void notInTheCrowdAlready() {
        Check.sentence("and not in the crowd already");
        Subject x = Subject.loaded("Fe001e001e002s0200010s0300010");
        Check.wouldBe(x, 0, 0b101, 20, 0, 0);
        Check.same("the twin", x.why(0, 1), 5);
        Check.same("two faces for three", x.would(1, 0), NONE);
        Check.same("lacks", x.lacks(1), 1);
        Subject y = Subject.loaded("Fe001e001e002s0110010s0200010g0");
        Check.same("the twin with fewer minutes", y.would(1, 0), 0b110);
        Check.same("the other twin", y.why(1, 0), 5);
        Subject all = new Subject();
        for (int e = 0; e < 14; e++) {
            all.extra(0, 5);
        }
        all.scene(0, 1, 0, 0, 10);
        all.scene(0, 6, 0, 0, 10);
        Check.same("one face", all.would(0, 0), 1);
        Check.same("one face for six", all.lacks(1), 5);
    }

    private static void fewestMinutes() {
        Check.sentence("the one with the fewest minutes of work on this day, of several the lowest, again and again");
        // The extras get 30, 20, 10 and 20 minutes.
        Subject x = Subject.loaded("Fe000e001e002e003s0100030s0110020s0120010s0130020g0g1g2g3s0190010s0290010s0390010"
                + "s0490010");
        Check.same("one", x.would(4, 0), 0b0100);
        Check.same("two", x.would(5, 0), 0b0110);
        Check.same("three", x.would(6, 0), 0b1110);
        Check.same("four", x.would(7, 0), 0b1111);
        Check.same("why not the third", x.why(5, 3), 6);
        Check.same("why not the fourth", x.why(6, 0), 6);
        int[][] pairs = {{11, 10, 0b10}, {10, 11, 0b01}, {11, 11, 0b01}, {12, 11, 0b10}, {240, 239, 0b10}};
        for (int[] p : pairs) {
            Subject y = Subject.loaded("Fe000e001");
            y.scene(0, 1, 0, 0, p[0]);
            y.scene(0, 1, 1, 0, p[1]);
            y.scene(0, 1, 2, 0, 10);
            Check.same("first", y.shoot(0), 0b01);
            Check.same("second", y.shoot(1), 0b10);
            Check.same(p[0] + " and " + p[1], y.would(2, 0), p[2]);
        }
        Subject last = new Subject();
        for (int e = 0; e < 14; e++) {
            last.extra(0, e);
        }
        for (int s = 0; s < 3; s++) {
            last.scene(0, 6, s, 0, 10);
        }
        Check.same("the first six", last.shoot(0), 0b00000000111111);
        Check.same("the next six", last.shoot(1), 0b00111111000000);
        Check.same("the last two, then the lowest", last.shoot(2), 0b11000000001111);
    }

    private static void fewestOfThisDay() {
        Check.sentence("the one with the fewest minutes of work on this day");
        Subject x = Subject.loaded("Fe000e001s0100100s0110050s0120010");
        x.shoot(0);
        x.meal();
        x.shoot(1);
        Check.extraIs(x, 0, 0, 0, 100, 0);
        Check.extraIs(x, 1, 0, 1, 50, 50);
        Check.same("not since the meal", x.would(2, 0), 0b10);
        x.meal();
        Check.same("nor behind a meal", x.would(2, 0), 0b10);
        x.nextDay();
        Check.same("another day: the lowest", x.would(2, 0), 0b01);
    }

    private static void tooFew() {
        Check.sentence("If there are too few then, the scene cannot be shot.");
        for (int many = 1; many <= 6; many++) {
            Subject x = new Subject();
            for (int e = 1; e < many; e++) {
                x.extra(0, e);
            }
            x.scene(0, many, 0, 0, 10);
            int last = many - 1;
            Check.refuses("one too few for " + many, x, STATE, o -> o.shoot(0));
            Check.same("would", x.would(0, 0), NONE);
            Check.same("cheapest", x.cheapest(), NONE);
            Check.same("the next one's number", x.extra(0, 0), last);
            Check.same("just enough", x.shoot(0), (1 << many) - 1);
        }
    }

    // ---- what shooting brings

    private static void worksItsMinutes() {
        Check.sentence("each extra in it works its minutes: they are added to those of the day, and to those since "
                + "the meal");
        Subject x = Subject.loaded("Fe000e001e002s0200010s0110240g0");
        Check.extraIs(x, 0, 0, 0, 10, 10, 1, 0, 10);
        Check.extraIs(x, 1, 0, 1, 10, 10, 1, 0, 10);
        Check.extraIs(x, 2, 0, 2, 0, 0, 0, 0, 0);
        x.meal();
        x.replace(0, 1, 2);
        Check.same("least minutes", x.shoot(1), 0b100);
        Check.extraIs(x, 0, 0, 0, 10, 0, 1, 0, 10);
        Check.extraIs(x, 2, 0, 2, 240, 240, 2, 0, 40);
        x.nextDay();
        Check.extraIs(x, 2, 0, 2, 0, 0, 2, 0, 40);
    }

    private static void begunHours() {
        Check.sentence("The wage is setting 1 for each begun hour of the scene.");
        int[][] hours = {{10, 1}, {11, 1}, {59, 1}, {60, 1}, {61, 2}, {119, 2}, {120, 2}, {121, 3}, {179, 3},
            {180, 3}, {181, 4}, {239, 4}, {240, 4}};
        for (int[] h : hours) {
            Subject x = Subject.loaded("Fe000e001e002");
            x.scene(0, 3, 0, 0, h[0]);
            for (int wage : new int[] {10, 1, 99}) {
                if (wage != 10) {
                    x.set(1, wage);
                }
                Check.wouldBe(x, 0, 0b111, 3 * wage * h[1], 0, 0);
            }
            x.shoot(0);
            Check.same(h[0] + " minutes: all wages", x.about(4), 3 * 99 * h[1]);
            Check.same(h[0] + " minutes: no penalties", x.about(5), 0);
            for (int e = 0; e < 3; e++) {
                Check.same(h[0] + " minutes: extra " + e, x.extraOf(e, 6), 99 * h[1]);
            }
        }
    }

    private static int begunHalfHoursAbove360(int minutes) {
        int begun = 0;
        for (int from = 360; from < minutes; from += 30) {
            begun++;
        }
        return begun;
    }

    private static void above360() {
        Check.sentence("If the minutes since the meal are above 360 then, the penalties are, in all, one for each "
                + "begun 30 minutes above 360");
        int[][] bounds = {{359, 0}, {360, 0}, {361, 1}, {362, 1}, {389, 1}, {390, 1}, {391, 2}, {419, 2}, {420, 2},
            {421, 3}, {449, 3}, {450, 3}, {451, 4}, {479, 4}, {480, 4}};
        for (int[] b : bounds) {
            Check.same("by hand", begunHalfHoursAbove360(b[0]), b[1]);
        }
        for (int minutes = 10; minutes <= 240; minutes++) {
            Subject x = Subject.alone(240, minutes);
            x.shoot(0);
            int due = begunHalfHoursAbove360(240 + minutes);
            String name = 240 + minutes + " minutes";
            Check.same(name + ": would", x.would(1, 2), 5 * due);
            x.shoot(1);
            Check.same(name + ": penalties", x.about(6), due);
            Check.same(name + ": costs", x.about(5), 5 * due);
        }
    }

    private static void above360AfterMany() {
        Check.sentence("one for each begun 30 minutes above 360");
        int[][] ends = {{209, 19}, {210, 19}, {211, 20}, {239, 20}, {240, 20}};
        for (int[] end : ends) {
            Subject x = Subject.alone(240, 240, 240, end[0]);
            x.set(0, 960);
            x.shoot(0);
            x.shoot(1);
            x.shoot(2);
            Check.same("720 minutes", x.about(6), 12);
            x.shoot(3);
            Check.same(720 + end[0] + " minutes", x.about(6), end[1]);
        }
    }

    private static void notCountedYet() {
        Check.sentence("those that were not counted yet cost setting 2 each");
        Subject x = Subject.alone(240, 121, 10, 10, 10, 10, 20, 10, 210);
        x.set(0, 960);
        int[] more = {0, 1, 0, 0, 1, 0, 1, 0, 7};
        int[] since = {240, 361, 371, 381, 391, 401, 421, 431, 641};
        int penalties = 0;
        for (int s = 0; s < since.length; s++) {
            Check.same("would be at " + since[s], x.would(s, 2), 5 * more[s]);
            x.shoot(s);
            penalties += more[s];
            Check.same("minutes", x.extraOf(0, 3), since[s]);
            Check.same("penalties at " + since[s], x.about(6), penalties);
            Check.same("costs at " + since[s], x.about(5), 5 * penalties);
            Check.same("and by their number at once", penalties, begunHalfHoursAbove360(since[s]));
        }
        Check.same("earned", x.extraOf(0, 6), x.about(4) + 5 * 10);
    }

    private static void notCountedTwice() {
        Check.sentence("those that were not counted yet");
        Subject x = Subject.alone(240, 121, 29, 240, 120, 10, 240);
        x.set(0, 960);
        x.shoot(0);
        x.shoot(1);
        Check.same("one at 361", x.about(6), 1);
        Check.same("none more at 390", x.would(2, 2), 0);
        x.meal();
        x.shoot(3);
        x.shoot(4);
        Check.same("none at 360 behind the meal", x.about(6), 1);
        Check.same("counted anew at 370", x.would(5, 2), 5);
        x.shoot(5);
        Check.same("counted anew at 370", x.about(6), 2);
        x.undo();
        Check.same("undo brings back what was counted", x.would(5, 2), 5);
        x.shoot(5);
        x.nextDay();
        x.shoot(6);
        Check.same("another day", x.would(2, 2), 0);
        Subject two = Subject.loaded("Fe000e001s0100240s0110121s0210121");
        two.shoot(0);
        Check.same("extra 1 has worked less", two.shoot(1), 0b10);
        Check.wouldBe(two, 2, 0b11, 60, 5, 0);
        two.shoot(2);
        Check.same("counted for each extra by itself", two.about(6), 1);
        Check.extraIs(two, 0, 0, 0, 361, 361, 2, 0, 40 + 30 + 5);
        Check.extraIs(two, 1, 0, 1, 242, 242, 2, 0, 30 + 30);
    }

    private static void costAsSet() {
        Check.sentence("cost setting 2 each");
        Subject x = Subject.alone(240, 121, 30, 30, 30);
        x.set(2, 0);
        x.shoot(0);
        Check.same("nothing", x.would(1, 2), 0);
        x.shoot(1);
        Check.same("counted", x.about(6), 1);
        Check.same("but free", x.about(5), 0);
        x.set(2, 99);
        Check.same("only the new one costs", x.would(2, 2), 99);
        x.shoot(2);
        Check.same("99", x.about(5), 99);
        x.set(2, 1);
        x.shoot(3);
        Check.same("100", x.about(5), 100);
        Check.same("three", x.about(6), 3);
        Check.same("earned", x.extraOf(0, 6), 40 + 30 + 10 + 10 + 100);
        x.set(1, 99);
        Check.same("wages so far stay", x.about(4), 90);
        x.set(1, 1);
        x.shoot(4);
        Check.same("and those from now on are as set", x.about(4), 91);
    }

    private static void breaks() {
        Check.sentence("Each known face that is not in the crowd, barred or not, is a break.");
        // Extras 0 to 2 have been seen; extra 3 has the face of extra 1 and another look.
        Subject x = Subject.loaded("Fe000e001e002e101e209s0300240g0s0300010s0200010s0100010s1100010s2100010s0110010"
                + "s0101010");
        Check.same("the first scene of a day", x.about(7), 0);
        Check.same("all three", x.would(1, 3), 0);
        Check.same("two of three", x.would(2, 3), 1);
        Check.same("one of three", x.would(3, 3), 2);
        Check.same("a twin of one", x.would(4, 3), 2);
        Check.same("none of three", x.would(5, 3), 3);
        Check.same("another story day", x.would(6, 3), 0);
        Check.same("barred there: cannot be shot", x.would(7, 3), NONE);
        x.shoot(4);
        Check.same("two", x.about(7), 2);
        x.shoot(5);
        Check.same("two and three", x.about(7), 5);
        Check.same("a face that is known of two is one: 0, 1, 2 and 9", x.would(2, 3), 2);
        x.shoot(1);
        Check.same("and face 9", x.about(7), 6);
        Subject barred = Subject.loaded("Fe000e001e102e103s0200010s1201010g0g1s0100010s1101010");
        Check.same("barred faces are no known ones", barred.would(2, 3), 1);
        Check.same("barred faces are no known ones", barred.would(3, 3), 1);
        barred.shoot(2);
        barred.shoot(3);
        Check.same("breaks", barred.about(7), 2);
    }

    // ---- settings, sets

    private static void settings() {
        Check.sentence("0: the most minutes of a day, 240 to 960, at first 600; 1: the wage of an hour, 1 to 99, at "
                + "first 10; 2: what a penalty costs, 0 to 99, at first 5.");
        Subject x = new Subject();
        Check.same("the day at first", x.setting(0), 600);
        Check.same("the wage at first", x.setting(1), 10);
        Check.same("a penalty at first", x.setting(2), 5);
        Check.range("the day", x, ARGUMENT, 240, 960, v -> o -> o.set(0, v));
        Check.range("the wage", x, ARGUMENT, 1, 99, v -> o -> o.set(1, v));
        Check.range("a penalty", x, ARGUMENT, 0, 99, v -> o -> o.set(2, v));
        int[][] edges = {{0, 240}, {0, 241}, {0, 959}, {0, 960}, {1, 1}, {1, 2}, {1, 98}, {1, 99}, {2, 0}, {2, 1},
            {2, 98}, {2, 99}};
        int[] now = {600, 10, 5};
        for (int[] e : edges) {
            Check.same("set(" + e[0] + ", " + e[1] + ")", x.set(e[0], e[1]), now[e[0]]);
            now[e[0]] = e[1];
            for (int what = 0; what < 3; what++) {
                Check.same("setting(" + what + ")", x.setting(what), now[what]);
            }
        }
    }

    private static void sets() {
        Check.sentence("A set is told as a number whose bit k (with the value 1 << k) is 1 if k is in it.");
        Subject x = new Subject();
        for (int e = 0; e < 14; e++) {
            x.extra(e == 13 || e == 0 ? 1 : 0, e == 0 ? 12 : e);
        }
        x.scene(1, 2, 0, 0, 10);
        x.scene(0, 1, 0, 0, 10);
        x.scene(0, 1, 0, 1, 10);
        x.scene(0, 6, 1, 0, 10);
        Check.same("extras 0 and 13", x.shoot(0), 1 + 8192);
        Check.same("as its crowd", x.sceneOf(0, 6), 8193);
        Check.same("faces 12 and 13", x.sceneOf(1, 7), 4096 + 8192);
        Check.same("faces 12 and 13", x.sceneOf(2, 8), 12288);
        Check.same("extra 12 has the face of extra 0", x.extraOf(0, 5), 4096);
        Check.same("and it of extra 12", x.extraOf(12, 5), 1);
        Check.same("no other has face 13", x.extraOf(13, 5), 0);
        Check.same("would", x.would(1, 0), 4096);
        Check.same("would", x.would(3, 0), 2 + 4 + 8 + 16 + 32 + 64);
        x.shoot(3);
        Check.same("replace", x.replace(3, 1, 12), 4 + 8 + 16 + 32 + 64 + 4096);
        Check.same("as its crowd", x.sceneOf(3, 6), 124 + 4096);
    }
}
