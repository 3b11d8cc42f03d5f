import java.util.ArrayList;
import java.util.List;
import java.util.Random;

/** Long runs of calls, with fixed seeds: CrowdFaces answers as Model does, call by call. */
public final class ModelTest {
    private static final int RUNS = 1500;
    private static final int CALLS = 512;

    private final Random random;
    private final CrowdFaces x = new CrowdFaces();
    private final Model model = new Model();
    private final List<String> calls = new ArrayList<>();
    // A run has few looks, faces, days and places, so that crowds meet each other.
    private final int looks;
    private final int faces;
    private final int days;
    private final int places;
    private final int wildness;

    private ModelTest(long seed) {
        random = new Random(seed);
        looks = 1 + random.nextInt(3);
        faces = 3 + random.nextInt(11);
        days = 1 + random.nextInt(3);
        places = 1 + random.nextInt(4);
        wildness = random.nextInt(8);
    }

    public static void main(String[] args) {
        for (int run = 0; run < RUNS; run++) {
            if (!new ModelTest(run).run(run)) {
                break;
            }
        }
        Check.finish();
    }

    private boolean run(int number) {
        for (int k = 0; k < CALLS && calls.size() < CALLS; k++) {
            if (!step()) {
                Check.tell("run " + number + ": " + calls);
                return false;
            }
        }
        return true;
    }

    private boolean same(String call, Check.Call mine, Check.Call due) {
        // Nothing is promised of an object after its 512th call.
        if (calls.size() >= CALLS) {
            return true;
        }
        calls.add(call);
        String got = Check.answer(mine);
        String want = Check.answer(due);
        Check.same(call, got, want);
        return got.equals(want);
    }

    private int any(int most) {
        if (random.nextInt(40) < wildness) {
            int[] odd = {-1, most, most + 1, Integer.MIN_VALUE, Integer.MAX_VALUE, 31, 32, -32, 100};
            return odd[random.nextInt(odd.length)];
        }
        return random.nextInt(Math.max(1, most));
    }

    private int anyExtra() {
        return any(model.world.people.size());
    }

    private int anyScene() {
        return any(model.world.takes.size());
    }

    private boolean step() {
        switch (random.nextInt(20)) {
            case 0:
                return text();
            case 1:
            case 2:
                return newExtra();
            case 3:
            case 4:
                return newScene();
            case 5:
            case 6:
            case 7: {
                int s = anyScene();
                return same("shoot " + s, () -> x.shoot(s), () -> model.shoot(s));
            }
            case 8:
            case 9:
                return change();
            case 10:
                return script();
            case 11:
                return slots();
            default:
                return ask();
        }
    }

    private boolean newExtra() {
        int look = any(looks);
        int face = any(faces);
        return same("extra " + look + " " + face, () -> x.extra(look, face), () -> model.extra(look, face));
    }

    private boolean newScene() {
        int look = any(looks);
        int many = 1 + any(random.nextInt(4) == 0 ? 6 : 3);
        int day = any(days);
        int place = any(places);
        int minutes = random.nextBoolean() ? 10 + any(231) : 60 * random.nextInt(5) + random.nextInt(2);
        return same("scene " + look + " " + many + " " + day + " " + place + " " + minutes,
                () -> x.scene(look, many, day, place, minutes), () -> model.scene(look, many, day, place, minutes));
    }

    private boolean change() {
        switch (random.nextInt(8)) {
            case 0:
                return same("meal", x::meal, model::meal);
            case 1:
                return same("nextDay", x::nextDay, model::nextDay);
            case 2: {
                int what = any(3);
                int[] edges = {0, 1, 99, 100, 239, 240, 300, 960, 961};
                int v = random.nextInt(3) == 0 ? edges[random.nextInt(edges.length)]
                        : what == 0 ? 240 + random.nextInt(721) : random.nextInt(100);
                return same("set " + what + " " + v, () -> x.set(what, v), () -> model.set(what, v));
            }
            case 3: {
                boolean fine = true;
                for (int k = random.nextInt(random.nextInt(5) == 0 ? 18 : 4); k >= 0 && fine; k--) {
                    fine = same("undo", x::undo, model::undo);
                }
                return fine;
            }
            default: {
                int s = anyScene();
                int a = memberOf(s);
                int b = anyExtra();
                return same("replace " + s + " " + a + " " + b, () -> x.replace(s, a, b),
                        () -> model.replace(s, a, b));
            }
        }
    }

    private int memberOf(int s) {
        if (s >= 0 && s < model.world.takes.size() && model.world.takes.get(s).crowd != null
                && random.nextInt(4) != 0) {
            List<Integer> crowd = new ArrayList<>(model.world.takes.get(s).crowd);
            return crowd.get(random.nextInt(crowd.size()));
        }
        return anyExtra();
    }

    private boolean text() {
        switch (random.nextInt(6)) {
            case 0:
                return same("clearText", x::clearText, model::clearText);
            case 1: {
                int c = random.nextInt(4) == 0 ? any(256) : "Fesgmn0123456789".charAt(random.nextInt(16));
                return same("append " + c, () -> x.append(c), () -> model.append(c));
            }
            case 2:
                return same("load", x::load, model::load);
            default:
                return film();
        }
    }

    /** A whole film, sometimes with one wrong character, put in the buffer. */
    private boolean film() {
        StringBuilder told = new StringBuilder("F");
        int length = random.nextInt(5) == 0 ? 140 : random.nextInt(118);
        while (told.length() < length) {
            told.append(command());
        }
        if (random.nextInt(3) == 0) {
            told.setCharAt(random.nextInt(told.length()), "Fesgmn0123456789 ".charAt(random.nextInt(17)));
        }
        boolean fine = same("clearText", x::clearText, model::clearText);
        for (int k = 0; k < told.length() && fine; k++) {
            int c = told.charAt(k);
            fine = same("append " + c, () -> x.append(c), () -> model.append(c));
        }
        fine = fine && same("errorPosition", x::errorPosition, model::errorPosition);
        return fine && (random.nextInt(3) != 0 || same("load", x::load, model::load));
    }

    private String command() {
        switch (random.nextInt(5)) {
            case 0:
            case 1:
                return String.format("e%d%02d", random.nextInt(looks), random.nextInt(faces));
            case 2:
                return String.format("s%d%d%d%d%03d", random.nextInt(looks), 1 + random.nextInt(3),
                        random.nextInt(days), random.nextInt(places), 10 + random.nextInt(231));
            case 3:
                return "g" + random.nextInt(5);
            default:
                return random.nextBoolean() ? "m" : "n";
        }
    }

    private boolean script() {
        if (random.nextInt(3) == 0) {
            long seed = random.nextLong();
            int m = random.nextInt(10) == 0 ? any(62) : 1 + random.nextInt(60);
            return same("simulate " + seed + " " + m, () -> x.simulate(seed, m), () -> model.simulate(seed, m));
        }
        int n = 1 + any(3);
        long told = 0;
        for (int k = 0; k < 3 && k < n; k++) {
            told = told * 100000 + group();
        }
        if (random.nextInt(30) == 0) {
            long[] odd = {-1, 99999, 100000, 9999999999L, 10000000000L, 999999999999999L, 1000000000000000L,
                Long.MAX_VALUE, Long.MIN_VALUE};
            told = odd[random.nextInt(odd.length)];
        }
        long script = told;
        return same("runScript " + n + " " + script, () -> x.runScript(n, script), () -> model.runScript(n, script));
    }

    private int group() {
        int s = random.nextInt(Math.max(1, Math.min(10, model.world.takes.size() + 1)));
        int e = random.nextInt(Math.max(1, model.world.people.size() + 1));
        int spoilt = random.nextInt(12) == 0 ? (int) Math.pow(10, random.nextInt(4)) : 0;
        int[] low = {0, 1, random.nextInt(20)};
        int few = low[random.nextInt(3)];
        int[] settings = {240 + random.nextInt(721), random.nextInt(101), random.nextInt(101)};
        int what = random.nextInt(3);
        int[] groups = {random.nextInt(100000), 10000 + 1000 * s, 20000, 30000, 40000 + 1000 * s + 10 * e,
            50000 + 1000 * what + settings[what], 60000 + 1000 * s + 10 * e,
            70000 + 100 * e + random.nextInt(2), 80000 + few, 90000 + few};
        return (groups[random.nextInt(10)] + spoilt) % 100000;
    }

    private boolean slots() {
        int slot = any(2);
        return random.nextInt(3) != 0 ? same("save " + slot, () -> x.save(slot), () -> model.save(slot))
                : same("restore " + slot, () -> x.restore(slot), () -> model.restore(slot));
    }

    private boolean ask() {
        int s = anyScene();
        int t = anyScene();
        int e = anyExtra();
        switch (random.nextInt(9)) {
            case 0: {
                int what = any(9);
                return same("about " + what, () -> x.about(what), () -> model.about(what));
            }
            case 1: {
                int what = any(7);
                return same("extraOf " + e + " " + what, () -> x.extraOf(e, what), () -> model.extraOf(e, what));
            }
            case 2: {
                int what = any(9);
                return same("sceneOf " + s + " " + what, () -> x.sceneOf(s, what), () -> model.sceneOf(s, what));
            }
            case 3: {
                int what = any(3);
                return same("setting " + what, () -> x.setting(what), () -> model.setting(what));
            }
            case 4: {
                int what = any(4);
                return same("would " + s + " " + what, () -> x.would(s, what), () -> model.would(s, what));
            }
            case 5:
                return same("why " + s + " " + e, () -> x.why(s, e), () -> model.why(s, e));
            case 6:
                return same("cheapest", x::cheapest, model::cheapest);
            case 7:
                return same("lacks " + s, () -> x.lacks(s), () -> model.lacks(s));
            default:
                return same("order " + s + " " + t, () -> x.order(s, t), () -> model.order(s, t));
        }
    }
}
