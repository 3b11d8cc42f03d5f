import java.util.Set;
import java.util.TreeSet;

/** Promise 23, runScript: each sentence at its bounds, and of two films each group that there is. */
public final class ScriptTest {
    private static final Class<IllegalArgumentException> ARGUMENT = Check.ARGUMENT;
    private static final int NONE = CrowdFaces.NONE;

    private ScriptTest() {
    }

    public static void main(String[] args) {
        howManyCommands();
        howManyDigits();
        highestGroupFirst();
        firstThatFails();
        eachGroupOfASmallFilm();
        eachGroupOfAFullFilm();
        eachGroupOfANewFilm();
        shootGroup();
        mealGroup();
        nextDayGroup();
        replaceGroup();
        lowestThatCan();
        setGroup();
        inTheCrowdGroup();
        hasWorkedGroup();
        penaltiesGroup();
        breaksGroup();
        failAsTheMethodThrows();
        onACopy();
        Check.finish();
    }

    /** Scenes 0 and 1 are shot with extras 0 and 1, and 0: 480 and 240 minutes; scene 2 can be shot with extra 3. */
    private static Subject small() {
        return Subject.loaded("Fe000e001e000s0200240s0100240s0101010g0g1e002");
    }

    /** 14 extras with one face each, ten scenes, each on its own day; scene k but the last is shot with extra k. */
    private static Subject full() {
        Subject x = new Subject();
        for (int e = 0; e < 14; e++) {
            x.extra(0, e);
        }
        for (int s = 0; s < 10; s++) {
            x.scene(0, 1, s, 0, 10);
        }
        for (int s = 0; s < 9; s++) {
            Check.same("crowd", x.shoot(s), 1 << s);
        }
        return x;
    }

    private static void script(Subject x, int due, long... groups) {
        long script = 0;
        StringBuilder name = new StringBuilder("script");
        for (long group : groups) {
            script = script * 100000 + group;
            name.append(' ').append(100000 + group);
        }
        Check.same(name.toString(), x.runScript(groups.length, script), due);
    }

    private static void howManyCommands() {
        Check.sentence("n: number of commands, 1 to 3. Throws IllegalArgumentException if n is out of range");
        Subject x = small();
        Check.range("n", x, ARGUMENT, 1, 3, v -> o -> o.runScript(v, 20000L));
        Check.range("n with a script of 0", x, ARGUMENT, 1, 3, v -> o -> o.runScript(v, 0L));
        Check.same("one", x.runScript(1, 20000L), NONE);
        Check.same("two", x.runScript(2, 2000020000L), NONE);
        Check.same("three", x.runScript(3, 200002000020000L), NONE);
        Check.refuses("none", x, ARGUMENT, o -> o.runScript(0, 20000L));
        Check.refuses("four", x, ARGUMENT, o -> o.runScript(4, 200002000020000L));
    }

    private static void howManyDigits() {
        Check.sentence("or if script is negative or has more than 5 * n digits");
        Subject x = small();
        long unit = 1;
        for (int n = 1; n <= 3; n++) {
            int count = n;
            unit *= 100000;
            long most = unit - 1;
            long more = unit;
            Check.same("5 * " + n + " digits", x.runScript(n, most), 0);
            Check.same("one less", x.runScript(n, most - 1), 0);
            Check.same("the least of so many digits", x.runScript(n, unit / 10), 0);
            Check.same("0", x.runScript(n, 0L), 0);
            Check.same("1", x.runScript(n, 1L), 0);
            for (long wrong : new long[] {more, more + 1, more + 20000, 2 * more, 10 * more, Long.MAX_VALUE,
                Long.MAX_VALUE - 1, -1L, -20000L, -most, Long.MIN_VALUE, Long.MIN_VALUE + 20000L, 1L << 62}) {
                Check.refuses(n + " commands: " + wrong, x, ARGUMENT, o -> o.runScript(count, wrong));
            }
        }
        Check.refuses("one command more than n", x, ARGUMENT, o -> o.runScript(1, 2000020000L));
        Check.refuses("one command more than n", x, ARGUMENT, o -> o.runScript(2, 200002000020000L));
        Check.refuses("a number that is one of 15 digits with 2^32 and more", x, ARGUMENT,
                o -> o.runScript(1, 4294967296L + 20000L));
    }

    private static void highestGroupFirst() {
        Check.sentence("the first command is the highest group of the number (with zeros before it, if it has fewer "
                + "digits)");
        Subject x = small();
        script(x, 1, 20000, 10000);
        script(x, 0, 10000, 20000);
        script(x, 2, 20000, 30000, 10000);
        script(x, 1, 20000, 10000, 30000);
        script(x, 0, 10000, 20000, 30000);
        Check.same("9 digits for two", x.runScript(2, 200020000L), 0);
        Check.same("5 digits for two: 00000 first", x.runScript(2, 20000L), 0);
        Check.same("10 digits for three: 00000 first", x.runScript(3, 2000020000L), 0);
        Check.same("4 digits for one", x.runScript(1, 2000L), 0);
        Check.same("1 digit for one", x.runScript(1, 2L), 0);
        Check.same("14 digits for three", x.runScript(3, 20000200002000L), 0);
    }

    private static void firstThatFails() {
        Check.sentence("Returns the index, from 0, of the first command that fails; NONE if all succeed.");
        Subject x = small();
        int[] fine = {20000, 30000, 12000};
        for (int group : fine) {
            script(x, NONE, group);
            script(x, 0, 0);
            script(x, NONE, 20000, group);
            script(x, 1, group, 0);
            script(x, 0, 0, group);
            script(x, 0, 0, 0);
            script(x, NONE, 20000, group, 20000);
            script(x, 2, 20000, group, 0);
            script(x, 1, group, 0, 20000);
            script(x, 1, group, 0, 0);
            script(x, 0, 0, 0, 0);
            script(x, 0, 0, group, group);
        }
    }

    // ---- each group

    private static void span(Set<Integer> groups, int from, int to) {
        for (int group = from; group <= to; group++) {
            groups.add(group);
        }
    }

    private static Set<Integer> always() {
        Set<Integer> fine = new TreeSet<>();
        fine.add(20000);
        fine.add(30000);
        span(fine, 50240, 50960);
        span(fine, 51001, 51099);
        span(fine, 52000, 52099);
        return fine;
    }

    private static void eachGroup(Subject x, Set<Integer> fine) {
        for (int group = 0; group < 100000; group++) {
            Check.same("group " + (100000 + group), x.runScript(1, group), fine.contains(group) ? NONE : 0);
        }
    }

    private static void eachGroupOfASmallFilm() {
        Check.sentence("commands with scenes or extras that do not exist fail, and so does any other group (also one "
                + "with another digit where a 0 is written, or an r above 1)");
        Set<Integer> fine = always();
        for (int group : new int[] {12000, 40000, 40010, 41000, 60000, 60010, 61000, 70001, 70101, 70200, 70300}) {
            fine.add(group);
        }
        span(fine, 80004, 80099);
        span(fine, 90001, 90099);
        Subject x = small();
        Check.same("penalties", x.about(6), 4);
        Check.same("breaks", x.about(7), 1);
        eachGroup(x, fine);
    }

    private static void eachGroupOfAFullFilm() {
        Check.sentence("aa, ee, vvv and nn are decimal numbers.");
        Set<Integer> fine = always();
        fine.add(19000);
        for (int s = 0; s < 9; s++) {
            fine.add(40000 + 1000 * s + 10 * s);
            fine.add(60000 + 1000 * s + 10 * s);
        }
        for (int e = 0; e < 14; e++) {
            fine.add(70000 + 100 * e + (e < 9 ? 1 : 0));
        }
        span(fine, 80000, 80099);
        span(fine, 90000, 90099);
        Subject x = full();
        eachGroup(x, fine);
        // The highest numbers: extra 13 plays scene 9.
        x.shoot(9);
        x.replace(9, 9, 13);
        script(x, NONE, 69130, 49130, 70901);
        script(x, NONE, 49130, 69000);
        script(x, 1, 49130, 69130);
        script(x, 0, 69120);
        script(x, 0, 49120);
        script(x, NONE, 71300);
        script(x, 0, 71301);
        script(x, 0, 71400);
        script(x, NONE, 70901);
    }

    private static void eachGroupOfANewFilm() {
        Check.sentence("commands with scenes or extras that do not exist fail");
        Set<Integer> fine = always();
        span(fine, 80000, 80099);
        span(fine, 90000, 90099);
        eachGroup(new Subject(), fine);
    }

    private static void shootGroup() {
        Check.sentence("1 s 0 0 0: shoot(s).");
        Subject x = Subject.loaded("Fe000e001s0200010s0101010s0300010s0110010");
        script(x, NONE, 10000, 13000);
        script(x, 1, 10000, 10000);
        script(x, 1, 10000, 11000);
        script(x, 0, 12000);
        script(x, NONE, 10000, 60000, 60010);
        script(x, NONE, 11000, 61000, 13000);
        script(x, 1, 11000, 10000);
        script(x, 0, 14000);
        script(x, NONE, 30000, 10000, 70001);
    }

    private static void mealGroup() {
        Check.sentence("2 0 0 0 0: meal().");
        Subject x = Subject.alone(240, 121);
        x.shoot(0);
        script(x, 1, 11000, 80000);
        script(x, NONE, 11000, 80001);
        script(x, NONE, 20000, 11000, 80000);
        script(x, NONE, 20000, 70001);
        script(x, NONE, 20000, 20000, 20000);
    }

    private static void nextDayGroup() {
        Check.sentence("3 0 0 0 0: nextDay().");
        Subject x = Subject.alone(240, 240, 240);
        x.shoot(0);
        x.shoot(1);
        script(x, 0, 12000);
        script(x, 1, 20000, 12000);
        script(x, NONE, 30000, 12000, 80004);
        script(x, NONE, 30000, 70000);
        script(x, 1, 30000, 70001);
        script(x, NONE, 30000, 30000, 30000);
    }

    private static void replaceGroup() {
        Check.sentence("4 s a a 0: replace(s, aa, the lowest extra that can be put in its place); fails if there is "
                + "none.");
        Subject x = small();
        script(x, NONE, 40000, 60020);
        script(x, 1, 40000, 60030);
        script(x, 1, 40000, 60000);
        script(x, NONE, 40000, 60010);
        script(x, NONE, 40010, 60030);
        script(x, 1, 40010, 60020);
        script(x, NONE, 41000, 61010);
        script(x, NONE, 41000, 41010, 61000);
        script(x, 1, 41000, 41000);
        script(x, 1, 12000, 42030);
        script(x, 0, 42030);
        String[] without = {"Fe000s0100010g0", "Fe000e101e200s0100010g0", "Fe000e001s0100010s0101010g0g1",
            "Fe000e001s0200010g0"};
        for (String film : without) {
            script(Subject.loaded(film), 0, 40000);
        }
        script(Subject.loaded("Fe000e000s0100010g0"), NONE, 40000, 60010);
        script(Subject.loaded("Fe000e001s0100010s0101010g0g1e000"), NONE, 40000, 60020);
        script(Subject.loaded("Fe000e001s0200010g0e001"), 0, 40000);
        script(Subject.loaded("Fe000e001s0200010g0e001"), NONE, 40010, 60020);
    }

    private static void lowestThatCan() {
        Check.sentence("the lowest extra that can be put in its place");
        // Of scene 0 (extra 2): extra 0 has another look, extra 1 a barred face, extra 3 and 4 can.
        Subject x = Subject.loaded("Fe100e001e002e003e004s0100010s0101010g0g1");
        Check.same("crowds", x.sceneOf(0, 6) + 256 * x.sceneOf(1, 6), 0b10 + 256 * 0b100);
        script(x, NONE, 40010, 60030);
        script(x, 1, 40010, 60040);
        script(x, NONE, 40010, 40030, 60010);
        x.set(0, 240);
        Subject late = Subject.loaded("Fe000e001s0100240s0110240s0120240g0g1g2");
        late.set(0, 240);
        Check.same("crowd", late.sceneOf(0, 6), 0b01);
        script(late, NONE, 40000, 60010);
        script(late, NONE, 41010, 61000);
    }

    private static void setGroup() {
        Check.sentence("5 w v v v: set(w, vvv).");
        Subject x = Subject.alone(240, 110, 111);
        x.shoot(0);
        script(x, NONE, 50350, 11000);
        script(x, 1, 50349, 11000);
        script(x, 1, 50350, 12000);
        script(x, NONE, 50351, 12000);
        int[] fails = {50000, 50099, 50239, 50961, 50999, 51000, 51100, 51240, 52100, 52999, 53000, 53050, 54300,
            59999};
        for (int group : fails) {
            script(x, 0, group);
        }
        int[] fine = {50240, 50241, 50959, 50960, 51001, 51002, 51098, 51099, 52000, 52001, 52098, 52099};
        for (int group : fine) {
            script(x, NONE, group);
        }
        script(x, NONE, 50240, 50960, 12000);
        script(x, 2, 50960, 50240, 12000);
    }

    private static void inTheCrowdGroup() {
        Check.sentence("6 s e e 0: succeeds if the extra ee is in the crowd of s, and s has been shot.");
        Subject x = small();
        script(x, NONE, 60000, 60010, 61000);
        script(x, 0, 60020);
        script(x, 0, 61010);
        script(x, 0, 62030);
        script(x, NONE, 12000, 62030);
        script(x, 1, 12000, 62000);
        script(x, 0, 63000);
        script(x, 0, 60040);
        script(x, 0, 60320);
        script(x, NONE, 30000, 60000);
    }

    private static void hasWorkedGroup() {
        Check.sentence("7 e e 0 r: succeeds if r is 1 and the extra ee has worked on this day, or r is 0 and has not.");
        Subject x = small();
        script(x, NONE, 70001, 70101, 70200);
        script(x, 0, 70000);
        script(x, 0, 70100);
        script(x, 0, 70201);
        for (int r = 2; r <= 9; r++) {
            script(x, 0, 70000 + r);
            script(x, 0, 70200 + r);
        }
        script(x, NONE, 12000, 70301);
        script(x, 1, 12000, 70300);
        script(x, NONE, 30000, 70000, 70100);
        script(x, NONE, 40000, 70200, 70001);
        script(x, NONE, 20000, 70001);
        script(x, 0, 70400);
        script(x, 0, 70401);
    }

    private static void penaltiesGroup() {
        Check.sentence("8 0 0 n n: succeeds if there were at most nn penalties so far.");
        for (int penalties = 0; penalties <= 4; penalties++) {
            Subject x = Subject.alone(240, 120 + 30 * penalties);
            x.shoot(0);
            for (int most = 0; most <= 6; most++) {
                script(x, most >= penalties ? NONE : 1, 11000, 80000 + most);
                script(x, NONE, 80000 + most);
            }
        }
        Subject x = new Subject();
        for (int e = 0; e < 6; e++) {
            x.extra(0, e);
        }
        int[] many = {6, 6, 6, 3, 1, 1};
        int[] minutes = {240, 240, 240, 240, 90, 10};
        int[] due = {0, 24, 72, 96, 99, 100};
        x.set(0, 960);
        for (int s = 0; s < 6; s++) {
            x.scene(0, many[s], s, 0, minutes[s]);
            x.shoot(s);
            Check.same("penalties", x.about(6), due[s]);
            for (int most : new int[] {0, 23, 24, 25, 71, 72, 73, 95, 96, 97, 98, 99}) {
                script(x, due[s] <= most ? NONE : 0, 80000 + most);
            }
        }
        x.nextDay();
        script(x, 0, 80099);
    }

    private static void breaksGroup() {
        Check.sentence("9 0 0 n n: succeeds if there were at most nn breaks so far.");
        for (int last = 4; last <= 6; last++) {
            Subject x = new Subject();
            for (int e = 0; e < 14; e++) {
                x.extra(e < 6 ? 0 : e < 12 ? 1 : 2, e);
            }
            int[] looks = {0, 1, 2, 0, 1, 2, 0, 1, 2, 0};
            int[] many = {6, 6, 2, 2, 2, 2, 2, 2, 2, last};
            int[] due = {0, 6, 18, 30, 42, 54, 66, 78, 90, 90 + 14 - last};
            for (int s = 0; s < 10; s++) {
                x.scene(looks[s], many[s], 3, 2, 10);
                x.shoot(s);
                Check.same("breaks", x.about(7), due[s]);
                for (int most : new int[] {0, due[s] - 1, due[s], due[s] + 1, 98, 99}) {
                    if (most >= 0 && most <= 99) {
                        script(x, due[s] <= most ? NONE : 0, 90000 + most);
                    }
                }
            }
        }
    }

    private static void failAsTheMethodThrows() {
        Check.sentence("The commands 1 to 5 fail if the method would throw an exception");
        Subject x = small();
        for (int s = 0; s < 10; s++) {
            int scene = s;
            boolean shoots = !Check.answer(x.again(), o -> o.shoot(scene)).endsWith("Exception");
            script(x, shoots ? NONE : 0, 10000 + 1000 * s);
            for (int a = 0; a < 100; a++) {
                int out = a;
                boolean replaces = false;
                for (int b = 0; b < 5 && a < 5; b++) {
                    int in = b;
                    replaces |= !Check.answer(x.again(), o -> o.replace(scene, out, in)).endsWith("Exception");
                }
                script(x, replaces ? NONE : 0, 40000 + 1000 * s + 10 * a);
            }
        }
        for (int what = 0; what < 10; what++) {
            for (int v : new int[] {0, 1, 2, 98, 99, 100, 239, 240, 241, 599, 600, 959, 960, 961, 999}) {
                int w = what;
                boolean sets = !Check.answer(x.again(), o -> o.set(w, v)).endsWith("Exception");
                script(x, sets ? NONE : 0, 50000 + 1000 * what + v);
            }
        }
        script(x, NONE, 20000);
        script(x, NONE, 30000);
    }

    private static void onACopy() {
        Check.sentence("Runs a script on a copy of the state.");
        Subject x = small();
        x.meal();
        x.save(0);
        x.set(2, 7);
        Check.leaves("a shoot", x, NONE, o -> o.runScript(1, 12000L));
        Check.leaves("a shoot of a shot one", x, 0, o -> o.runScript(1, 10000L));
        Check.leaves("a meal", x, NONE, o -> o.runScript(1, 20000L));
        Check.leaves("a day", x, NONE, o -> o.runScript(1, 30000L));
        Check.leaves("an extra in place of another", x, NONE, o -> o.runScript(1, 40000L));
        Check.leaves("a setting", x, NONE, o -> o.runScript(1, 50960L));
        Check.leaves("three settings", x, NONE, o -> o.runScript(3, 509605109952099L));
        Check.leaves("three of them", x, NONE, o -> o.runScript(3, 300001200040000L));
        Check.leaves("three of which the second fails", x, 1, o -> o.runScript(3, 300001000040000L));
        Check.leaves("questions", x, NONE, o -> o.runScript(3, 600008000490001L));
    }
}
