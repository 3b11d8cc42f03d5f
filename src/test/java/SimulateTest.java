/** Promise 24, simulate: each kind of turn alone, with seeds whose turns are found by the document's own rule. */
public final class SimulateTest {
    private static final Class<IllegalArgumentException> ARGUMENT = Check.ARGUMENT;
    private static final int NO_LIMIT = 20000000;

    /** What is asked of one turn. */
    private interface Turn {
        boolean fits(int kind, int q);
    }

    private SimulateTest() {
    }

    public static void main(String[] args) {
        howManyTurns();
        justSoManyTurns();
        anyLong();
        xIsReplacedFirst();
        shootTurns();
        extraTurns();
        sceneLooksAndNumbers();
        sceneDaysAndPlaces();
        sceneMinutes();
        mealTurns();
        nextDayTurns();
        setTurns();
        nothingElse();
        leftOut();
        returned();
        onACopy();
        Check.finish();
    }

    // ---- seeds

    private static long next(long x) {
        return x * 6364136223846793005L + 1442695040888963407L;
    }

    private static int number(long x) {
        return (int) (x >>> 33);
    }

    /** The least seed from this one on whose first turns are these. */
    private static long seed(long from, Turn... turns) {
        for (long seed = from; seed < from + NO_LIMIT; seed++) {
            if (fits(seed, turns)) {
                return seed;
            }
        }
        throw new AssertionError("there is no such seed");
    }

    private static boolean fits(long seed, Turn[] turns) {
        long x = seed;
        for (Turn turn : turns) {
            x = next(x);
            if (!turn.fits(number(x) % 8, number(x) / 8)) {
                return false;
            }
        }
        return true;
    }

    private static Turn shoots(int s) {
        return (kind, q) -> kind >= 5 && q % 10 == s;
    }

    // ---- films

    /** Ten scenes, of which just this one can be shot. */
    private static Subject onlyScene(int only) {
        Subject x = new Subject();
        x.extra(4, 0);
        for (int s = 0; s < 10; s++) {
            x.scene(s == only ? 4 : 3, 1, s, 0, 10);
        }
        return x;
    }

    // ---- the sentences

    private static void howManyTurns() {
        Check.sentence("m: number of turns, 1 to 60. Throws IllegalArgumentException if m is out of range");
        Check.range("m", new Subject(), ARGUMENT, 1, 60, v -> o -> o.simulate(1L, v));
        Check.range("m", onlyScene(9), ARGUMENT, 1, 60, v -> o -> o.simulate(-1L, v));
        Check.refuses("none", onlyScene(9), ARGUMENT, o -> o.simulate(0L, 0));
        Check.refuses("61", onlyScene(9), ARGUMENT, o -> o.simulate(0L, 61));
    }

    private static void justSoManyTurns() {
        Check.sentence("Simulates m turns");
        Subject x = onlyScene(9);
        for (int m = 1; m <= 60; m++) {
            Turn[] turns = new Turn[m];
            for (int k = 0; k < m - 1; k++) {
                turns[k] = (kind, q) -> kind < 5 || q % 10 != 9;
            }
            turns[m - 1] = shoots(9);
            for (long from : new long[] {0, Long.MIN_VALUE}) {
                long seed = seed(from, turns);
                Check.same("in turn " + m, x.simulate(seed, m), 10000);
                if (m > 1) {
                    Check.same("not yet in turn " + (m - 1), x.simulate(seed, m - 1), 0);
                }
                if (m < 60) {
                    Check.same("still after turn " + (m + 1), x.simulate(seed, m + 1), 10000);
                }
            }
        }
    }

    private static void anyLong() {
        Check.sentence("seed: any long");
        Subject x = onlyScene(9);
        long[] seeds = {0, 1, -1, 2, Long.MIN_VALUE, Long.MIN_VALUE + 1, Long.MAX_VALUE, Long.MAX_VALUE - 1,
            Integer.MAX_VALUE, Integer.MIN_VALUE, 1L << 32, 1L << 33, -(1L << 33), (1L << 33) - 1};
        for (long seed : seeds) {
            long value = seed;
            boolean shot = false;
            for (int m = 1; m <= 60; m++) {
                value = next(value);
                shot |= number(value) % 8 >= 5 && number(value) / 8 % 10 == 9;
                Check.same("seed " + seed + ", " + m + " turns", x.simulate(seed, m), shot ? 10000 : 0);
            }
        }
    }

    private static void xIsReplacedFirst() {
        Check.sentence("Each turn first replaces x by x * 6364136223846793005L + 1442695040888963407L (with long "
                + "overflow), and r = (int) (x >>> 33) is computed.");
        Subject x = onlyScene(9);
        // As seeds, these would shoot scene 9 if they were not replaced first; what they become does not.
        Turn other = (kind, q) -> kind == 3;
        for (long r : new long[] {8 * 9 + 5, 8 * 19 + 6, 8 * 29 + 7}) {
            long seed = seed(r << 33, other);
            Check.same("the seed itself is no turn", number(seed), r);
            Check.same("seed " + seed, x.simulate(seed, 1), 0);
        }
        // Turns with a high bit in x, so that r needs all of its 31 bits.
        for (int high = 0; high < 2; high++) {
            boolean set = high == 1;
            long seed = 0;
            while (!(next(seed) < 0 == set && shoots(9).fits(number(next(seed)) % 8, number(next(seed)) / 8))) {
                seed++;
            }
            Check.same("a high bit " + high, x.simulate(seed, 1), 10000);
        }
    }

    private static void shootTurns() {
        Check.sentence("Otherwise: shoot(q % 10).");
        for (int s = 0; s < 10; s++) {
            Subject x = onlyScene(s);
            Subject beside = onlyScene((s + 1) % 10);
            for (int kind = 5; kind <= 7; kind++) {
                int wanted = kind;
                int scene = s;
                long seed = seed(0, (k, q) -> k == wanted && q % 10 == scene);
                Check.same("kind " + kind + " shoots " + s, x.simulate(seed, 1), 10000);
                Check.same("and not the next", beside.simulate(seed, 1), 0);
            }
            for (int kind = 0; kind <= 4; kind++) {
                int wanted = kind;
                int scene = s;
                long seed = seed(0, (k, q) -> k == wanted && q % 10 == scene);
                Check.same("kind " + kind + " shoots nothing", x.simulate(seed, 1), 0);
            }
        }
    }

    /** 13 extras, whose faces all play on story day 0, so that just this one isn't barred in scenes 3 to 5. */
    private static Subject otherFacesBarred(int face) {
        Subject x = new Subject();
        for (int e = 0; e < 13; e++) {
            x.extra(e >= 6 && e < 12 ? 4 : 3, (face + 1 + e) % 14);
        }
        x.scene(3, 6, 0, 1, 10);
        x.scene(4, 6, 0, 1, 10);
        x.scene(3, 1, 0, 2, 10);
        for (int look = 0; look < 3; look++) {
            x.scene(look, 1, 0, 0, 10);
        }
        for (int s = 0; s < 3; s++) {
            x.shoot(s);
        }
        Check.same("all but face " + face, x.sceneOf(3, 8), 16383 - (1 << face));
        return x;
    }

    private static void extraTurns() {
        Check.sentence("0 and 1: extra(q % 3, q / 4 % 14).");
        for (int face = 0; face < 14; face++) {
            Subject same = otherFacesBarred(face);
            Subject other = otherFacesBarred((face + 1) % 14);
            for (int look = 0; look < 3; look++) {
                for (int kind = 0; kind < 2; kind++) {
                    int f = face;
                    int l = look;
                    int wanted = kind;
                    Turn extra = (k, q) -> k == wanted && q % 3 == l && q / 4 % 14 == f;
                    String name = "extra(" + look + ", " + face + ") by " + kind;
                    long seed = seed(0, extra, shoots(3 + look));
                    Check.same(name, same.simulate(seed, 2), 10000);
                    Check.same(name + ", another face", other.simulate(seed, 2), 0);
                    seed = seed(0, extra, shoots(3 + (look + 1) % 3));
                    Check.same(name + ", another look", same.simulate(seed, 2), 0);
                }
            }
        }
    }

    private static void sceneLooksAndNumbers() {
        Check.sentence("2: scene(q % 3, 1 + q / 4 % 4, q / 16 % 3, q / 64 % 2, 10 + q / 128 % 231).");
        for (int look = 0; look < 3; look++) {
            for (int many = 1; many <= 4; many++) {
                int l = look;
                int n = many;
                long seed = seed(7, (k, q) -> k == 2 && q % 3 == l && 1 + q / 4 % 4 == n, shoots(0));
                String name = "scene(" + look + ", " + many + ", ..)";
                Check.same(name + " and so many", ofLook(look, many).simulate(seed, 2), 10000);
                Check.same(name + " and one too few", ofLook(look, many - 1).simulate(seed, 2), 0);
                Check.same(name + " and another look", ofLook((look + 1) % 3, 6).simulate(seed, 2), 0);
            }
        }
    }

    /** So many extras of this look. */
    private static Subject ofLook(int look, int many) {
        Subject x = new Subject();
        for (int e = 0; e < many; e++) {
            x.extra(look, e);
        }
        return x;
    }

    private static void sceneDaysAndPlaces() {
        Check.sentence("2: scene(q % 3, 1 + q / 4 % 4, q / 16 % 3, q / 64 % 2, 10 + q / 128 % 231).");
        for (int day = 0; day < 3; day++) {
            for (int place = 0; place < 2; place++) {
                int d = day;
                int p = place;
                long seed = seed(3, (k, q) -> k == 2 && q / 4 % 4 == 0 && q / 16 % 3 == d && q / 64 % 2 == p,
                        shoots(1));
                for (int otherDay = 0; otherDay < 4; otherDay++) {
                    for (int otherPlace = 0; otherPlace < 4; otherPlace++) {
                        boolean barred = otherDay == day && otherPlace != place;
                        Check.same("day " + day + " and " + otherDay + ", place " + place + " and " + otherPlace,
                                seenAt(otherDay, otherPlace).simulate(seed, 2), barred ? 0 : 10000);
                    }
                }
            }
        }
    }

    /** The only face has been seen on this story day at this place; there is an extra of each look with it. */
    private static Subject seenAt(int day, int place) {
        Subject x = Subject.loaded("Fe300e000e100e200");
        x.scene(3, 1, day, place, 10);
        x.shoot(0);
        return x;
    }

    private static void sceneMinutes() {
        Check.sentence("2: scene(q % 3, 1 + q / 4 % 4, q / 16 % 3, q / 64 % 2, 10 + q / 128 % 231).");
        for (int minutes : new int[] {10, 11, 59, 60, 61, 125, 239, 240}) {
            int m = minutes;
            long seed = seed(11, (k, q) -> k == 2 && q / 4 % 4 == 0 && 10 + q / 128 % 231 == m, shoots(3));
            Subject x = Subject.loaded("Fe000e101e202s0190231s1190231s2190231g0g1g2m");
            x.set(0, 231 + minutes);
            Check.same("just time for " + minutes, x.simulate(seed, 2), 10000);
            x.set(0, 230 + minutes);
            Check.same("a minute too few for " + minutes, x.simulate(seed, 2), 0);
        }
    }

    private static void mealTurns() {
        Check.sentence("3: meal().");
        Subject x = Subject.alone(240, 121);
        x.shoot(0);
        Check.same("a meal", x.simulate(seed(0, (k, q) -> k == 3 && q % 4 == 0, shoots(1)), 2), 10000);
        Check.same("a meal", x.simulate(seed(0, (k, q) -> k == 3 && q % 4 != 0, shoots(1)), 2), 10000);
        Check.same("no meal", x.simulate(seed(0, shoots(1)), 1), 10001);
        Check.same("a meal too late", x.simulate(seed(0, shoots(1), (k, q) -> k == 3), 2), 10001);
        Subject day = Subject.alone(240, 240, 240);
        day.shoot(0);
        day.shoot(1);
        Check.same("a meal ends no day", day.simulate(seed(0, (k, q) -> k == 3 && q % 4 == 0, shoots(2)), 2), 0);
    }

    private static void nextDayTurns() {
        Check.sentence("4: nextDay(), if q % 4 is 0");
        Subject x = Subject.alone(240, 240, 240);
        x.shoot(0);
        x.shoot(1);
        Check.same("a day", x.simulate(seed(0, (k, q) -> k == 4 && q % 4 == 0, shoots(2)), 2), 10000);
        for (int rest = 1; rest < 4; rest++) {
            int r = rest;
            Turn noDay = (k, q) -> k == 4 && q % 4 == r && 240 + q / 4 % 721 < 720;
            Check.same("no day by " + rest, x.simulate(seed(0, noDay, shoots(2)), 2), 0);
        }
        Subject two = Subject.alone(240, 240);
        Turn small = (k, q) -> k == 4 && q % 4 == 0 && 240 + q / 4 % 721 < 480;
        Check.same("a day sets nothing", two.simulate(seed(0, small, shoots(0), shoots(1)), 3), 20004);
        Turn day = (k, q) -> k == 4 && q % 4 == 0;
        Check.same("a day between", two.simulate(seed(0, shoots(0), day, shoots(1)), 3), 20000);
    }

    private static void setTurns() {
        Check.sentence("otherwise set(0, 240 + q / 4 % 721)");
        for (int setting : new int[] {240, 241, 480, 600, 959, 960}) {
            for (int rest = 1; rest < 4; rest++) {
                int value = setting;
                int r = rest;
                Turn set = (k, q) -> k == 4 && q % 4 == r && 240 + q / 4 % 721 == value;
                long seed = seed(5, set, shoots(9));
                String name = "set(0, " + setting + ") by " + rest;
                Check.same(name, dayOf(setting, 240).simulate(seed, 2), 10000);
                Check.same(name + ", a minute too many", dayOf(setting + 1, 960).simulate(seed, 2), 0);
            }
        }
    }

    /** With scene 9 an extra works so many minutes on this day; then there is a meal, and this setting. */
    private static Subject dayOf(int minutes, int setting) {
        Subject x = new Subject();
        x.set(0, 960);
        x.extra(0, 0);
        int last = Math.min(240, minutes - 230);
        int rest = minutes - last;
        for (int s = 0; s < 9; s++) {
            int part = Math.min(rest > 240 && rest < 250 ? 230 : 240, rest);
            x.scene(part == 0 ? 1 : 0, 1, s, 0, Math.max(10, part));
            if (part != 0) {
                x.shoot(s);
            }
            rest -= part;
        }
        x.scene(0, 1, 9, 0, last);
        x.meal();
        x.set(0, setting);
        Check.same("minutes", x.extraOf(0, 2) + x.sceneOf(9, 4), minutes);
        return x;
    }

    private static void nothingElse() {
        Check.sentence("By r % 8: 0 and 1: extra(..). 2: scene(..). 3: meal(). 4: nextDay(), if q % 4 is 0, otherwise "
                + "set(..). Otherwise: shoot(..).");
        // A meal or a day would spare the penalty, a day the 720th minute; an extra or a scene would be the only one.
        Subject late = Subject.alone(240, 121);
        late.shoot(0);
        Subject day = Subject.alone(240, 240, 240);
        day.shoot(0);
        day.shoot(1);
        Subject noScene = new Subject();
        for (int e = 0; e < 12; e++) {
            noScene.extra(e % 3, e);
        }
        Subject noExtra = Subject.loaded("Fs0100010");
        for (int kind = 0; kind < 8; kind++) {
            for (int rest = 0; rest < 4; rest++) {
                int wanted = kind;
                int r = rest;
                boolean isDay = kind == 4 && rest == 0;
                Turn turn = (k, q) -> k == wanted && q % 4 == r && q % 10 > 3
                        && (k != 4 || q / 4 % 721 > 200 && q / 4 % 721 < 400);
                Turn notLookZero = (k, q) -> turn.fits(k, q) && q % 3 != 0;
                Turn notExtra = (k, q) -> turn.fits(k, q) && q % 3 == 0;
                String name = "kind " + kind + ", q % 4 is " + rest;
                Check.same(name + ": a penalty", late.simulate(seed(0, notLookZero, shoots(1)), 2),
                        kind == 3 || isDay ? 10000 : 10001);
                Check.same(name + ": a day", day.simulate(seed(0, notLookZero, shoots(2)), 2), isDay ? 10000 : 0);
                Check.same(name + ": a scene", noScene.simulate(seed(0, turn, shoots(0)), 2),
                        kind == 2 ? 10000 : 0);
                Check.same(name + ": an extra", noExtra.simulate(seed(0, notExtra, shoots(0)), 2),
                        kind < 2 ? 10000 : 0);
            }
        }
    }

    private static void leftOut() {
        Check.sentence("What would throw an exception is left out.");
        Turn extra = (k, q) -> k <= 1 && q % 3 == 0;
        for (int extras = 12; extras <= 14; extras++) {
            Subject x = new Subject();
            for (int e = 0; e < extras; e++) {
                x.extra(3, e);
            }
            x.scene(0, 1, 0, 0, 10);
            Check.same("an extra behind " + extras, x.simulate(seed(0, extra, shoots(0)), 2), extras < 14 ? 10000 : 0);
        }
        Turn scene = (k, q) -> k == 2 && q / 4 % 4 == 0;
        for (int scenes = 8; scenes <= 10; scenes++) {
            Subject x = Subject.loaded("Fe000e100e200");
            for (int s = 0; s < scenes; s++) {
                x.scene(4, 1, s, 0, 10);
            }
            int last = Math.min(scenes, 9);
            Check.same("a scene behind " + scenes, x.simulate(seed(0, scene, shoots(last)), 2),
                    scenes < 10 ? 10000 : 0);
        }
        Subject none = new Subject();
        for (int s = 0; s < 10; s++) {
            Check.same("no scene " + s, none.simulate(seed(0, shoots(s)), 1), 0);
        }
        Subject x = onlyScene(9);
        Check.same("what is behind is done", x.simulate(seed(0, shoots(8), shoots(9)), 2), 10000);
        Check.same("shot once", x.simulate(seed(0, shoots(9), shoots(9)), 2), 10000);
        x.shoot(9);
        Check.same("shot before", x.simulate(seed(0, shoots(9)), 1), 0);
    }

    private static void returned() {
        // "or 9999 if there are more" is never so: ten scenes bring at most six extras eight penalties each.
        Check.sentence("Returns 10000 * (the scenes shot in the turns) + (the penalties in the turns");
        Subject ten = Subject.loaded("Fe000" + "s0100010".repeat(10));
        for (long seed = 0; seed < 40; seed++) {
            long value = seed;
            int shot = 0;
            for (int m = 1; m <= 60; m++) {
                value = next(value);
                shot |= number(value) % 8 >= 5 ? 1 << number(value) / 8 % 10 : 0;
                if (m % 15 == 0) {
                    Check.same("seed " + seed + ", " + m, ten.simulate(seed, m), 10000 * Integer.bitCount(shot));
                }
            }
        }
        Subject six = new Subject();
        for (int e = 0; e < 6; e++) {
            six.extra(0, e);
        }
        for (int s = 0; s < 4; s++) {
            six.scene(0, 6, s, 0, 240);
        }
        six.set(0, 960);
        long both = seed(0, shoots(0), shoots(1));
        long more = seed(0, shoots(2), shoots(3));
        Check.same("480 minutes: four each", six.simulate(both, 2), 20000 + 24);
        Check.same("one of them", six.simulate(both, 1), 10000);
        six.shoot(0);
        Check.same("one was shot before", six.simulate(both, 2), 10000 + 24);
        six.shoot(1);
        Check.same("both were shot before", six.simulate(both, 2), 0);
        Check.same("720 minutes: eight more each", six.simulate(more, 1), 10000 + 48);
        Check.same("960 minutes: sixteen more each", six.simulate(more, 2), 20000 + 96);
        six.set(2, 0);
        Check.same("penalties that cost nothing", six.simulate(more, 2), 20000 + 96);
    }

    private static void onACopy() {
        Check.sentence("Simulates m turns on a copy of the state.");
        Subject x = otherFacesBarred(0);
        x.save(1);
        x.meal();
        for (long seed = 0; seed < 5; seed++) {
            long s = seed;
            int due = x.simulate(seed, 60);
            Check.leaves("simulate(" + seed + ", 60)", x, due, o -> o.simulate(s, 60));
            Check.leaves("simulate(" + seed + ", 60) again", x, due, o -> o.simulate(s, 60));
        }
    }
}
