import java.util.ArrayList;
import java.util.Arrays;
import java.util.List;
import java.util.TreeSet;

/**
 * The document once more, as slowly and plainly as can be, with lists and sets of the library, to
 * compare CrowdFaces with. It shares no code and no way of holding the state with that class.
 */
final class Model {
    static final class Person {
        int look;
        int face;
        int day;
        int since;
        int counted;
        int earned;

        Person copy() {
            Person p = new Person();
            p.look = look;
            p.face = face;
            p.day = day;
            p.since = since;
            p.counted = counted;
            p.earned = earned;
            return p;
        }
    }

    static final class Take {
        int look;
        int many;
        int day;
        int place;
        int minutes;
        TreeSet<Integer> crowd;

        Take copy() {
            Take t = new Take();
            t.look = look;
            t.many = many;
            t.day = day;
            t.place = place;
            t.minutes = minutes;
            t.crowd = crowd == null ? null : new TreeSet<>(crowd);
            return t;
        }
    }

    static final class World {
        List<Person> people = new ArrayList<>();
        List<Take> takes = new ArrayList<>();
        int[] settings = {600, 10, 5};
        int days;
        int wages;
        int penaltyCosts;
        int penalties;
        int breaks;

        World copy() {
            World w = new World();
            for (Person p : people) {
                w.people.add(p.copy());
            }
            for (Take t : takes) {
                w.takes.add(t.copy());
            }
            w.settings = settings.clone();
            w.days = days;
            w.wages = wages;
            w.penaltyCosts = penaltyCosts;
            w.penalties = penalties;
            w.breaks = breaks;
            return w;
        }
    }

    World world = new World();
    private List<World> past = new ArrayList<>();
    private World[] slots = new World[2];
    String text = "";

    // ---- helpers

    private static void arg(boolean fine) {
        if (!fine) {
            throw new IllegalArgumentException();
        }
    }

    private static void state(boolean fine) {
        if (!fine) {
            throw new IllegalStateException();
        }
    }

    private static void index(boolean fine) {
        if (!fine) {
            throw new IndexOutOfBoundsException();
        }
    }

    private static boolean between(int v, int a, int b) {
        return a <= v && v <= b;
    }

    private void extraExists(int e) {
        index(e >= 0 && e < world.people.size());
    }

    private void sceneExists(int s) {
        index(s >= 0 && s < world.takes.size());
    }

    private static int bits(Iterable<Integer> set) {
        int sum = 0;
        for (int k : set) {
            sum += 1 << k;
        }
        return sum;
    }

    private void action() {
        past.add(world.copy());
        if (past.size() > 14) {
            past.remove(0);
        }
    }

    /** This model on a copy of the world, without a past. */
    private Model copy() {
        Model m = new Model();
        m.world = world.copy();
        return m;
    }

    // ---- text

    int append(int c) {
        arg(between(c, 0, 255));
        state(text.length() < 120);
        text += (char) c;
        return text.length();
    }

    int clearText() {
        int was = text.length();
        text = "";
        return was;
    }

    private static List<String> numbers(int digits, int from, int to) {
        List<String> all = new ArrayList<>();
        for (int v = from; v <= to; v++) {
            String told = "0000" + v;
            all.add(told.substring(told.length() - digits));
        }
        return all;
    }

    private static List<List<String>> parts(char letter) {
        List<String> look = numbers(1, 0, 4);
        List<String> one = numbers(1, 0, 9);
        switch (letter) {
            case 'e':
                return List.of(look, numbers(2, 0, 13));
            case 's':
                return List.of(look, numbers(1, 1, 6), one, numbers(1, 0, 3), numbers(3, 10, 240));
            case 'g':
                return List.of(one);
            case 'm':
            case 'n':
                return List.of();
            default:
                return null;
        }
    }

    /** The commands of the text, or, if it is no film, only the error position. */
    private List<int[]> commands(int[] error) {
        List<int[]> found = new ArrayList<>();
        error[0] = -1;
        if (text.isEmpty() || text.charAt(0) != 'F') {
            error[0] = 0;
            return found;
        }
        int at = 1;
        while (at < text.length()) {
            List<List<String>> parts = parts(text.charAt(at));
            if (parts == null) {
                error[0] = at;
                return found;
            }
            int[] command = new int[6];
            command[0] = text.charAt(at);
            at++;
            for (int k = 0; k < parts.size(); k++) {
                int length = parts.get(k).get(0).length();
                for (int n = 1; n <= length; n++) {
                    if (at + n > text.length()) {
                        error[0] = text.length();
                        return found;
                    }
                    String begin = text.substring(at, at + n);
                    if (parts.get(k).stream().noneMatch(v -> v.startsWith(begin))) {
                        error[0] = at + n - 1;
                        return found;
                    }
                }
                command[k + 1] = Integer.parseInt(text.substring(at, at + length));
                at += length;
            }
            found.add(command);
        }
        return found;
    }

    int errorPosition() {
        int[] error = new int[1];
        commands(error);
        return error[0];
    }

    int load() {
        int[] error = new int[1];
        List<int[]> commands = commands(error);
        state(error[0] == -1);
        world = new World();
        int out = 0;
        for (int[] c : commands) {
            try {
                switch (c[0]) {
                    case 'e':
                        extra(c[1], c[2]);
                        break;
                    case 's':
                        scene(c[1], c[2], c[3], c[4], c[5]);
                        break;
                    case 'g':
                        shoot(c[1]);
                        break;
                    case 'm':
                        meal();
                        break;
                    default:
                        nextDay();
                        break;
                }
            } catch (RuntimeException e) {
                out++;
            }
        }
        past.clear();
        slots = new World[2];
        return out;
    }

    // ---- what there is

    private int shot() {
        int sum = 0;
        for (Take t : world.takes) {
            sum += t.crowd == null ? 0 : 1;
        }
        return sum;
    }

    int about(int what) {
        arg(between(what, 0, 8));
        TreeSet<Integer> faces = new TreeSet<>();
        for (Person p : world.people) {
            faces.add(p.face);
        }
        int[] all = {world.people.size(), world.takes.size(), shot(), world.days, world.wages, world.penaltyCosts,
            world.penalties, world.breaks, faces.size()};
        return all[what];
    }

    int extraOf(int e, int what) {
        extraExists(e);
        arg(between(what, 0, 6));
        Person p = world.people.get(e);
        int scenes = 0;
        for (Take t : world.takes) {
            if (t.crowd != null && t.crowd.contains(e)) {
                scenes++;
            }
        }
        TreeSet<Integer> twins = new TreeSet<>();
        for (int k = 0; k < world.people.size(); k++) {
            if (k != e && world.people.get(k).face == p.face) {
                twins.add(k);
            }
        }
        int[] all = {p.look, p.face, p.day, p.since, scenes, bits(twins), p.earned};
        return all[what];
    }

    private TreeSet<Integer> known(int s) {
        TreeSet<Integer> faces = new TreeSet<>();
        Take of = world.takes.get(s);
        for (Take t : world.takes) {
            if (t != of && t.crowd != null && t.day == of.day && t.place == of.place) {
                for (int e : t.crowd) {
                    faces.add(world.people.get(e).face);
                }
            }
        }
        return faces;
    }

    private TreeSet<Integer> barred(int s) {
        TreeSet<Integer> faces = new TreeSet<>();
        Take of = world.takes.get(s);
        for (Take t : world.takes) {
            if (t.crowd != null && t.day == of.day && t.place != of.place) {
                for (int e : t.crowd) {
                    faces.add(world.people.get(e).face);
                }
            }
        }
        return faces;
    }

    int sceneOf(int s, int what) {
        sceneExists(s);
        arg(between(what, 0, 8));
        Take t = world.takes.get(s);
        int[] all = {t.look, t.many, t.day, t.place, t.minutes, t.crowd == null ? 0 : 1,
            t.crowd == null ? 0 : bits(t.crowd), bits(known(s)), bits(barred(s))};
        return all[what];
    }

    int setting(int what) {
        arg(between(what, 0, 2));
        return world.settings[what];
    }

    // ---- actions

    int extra(int look, int face) {
        arg(between(look, 0, 4) && between(face, 0, 13));
        state(world.people.size() < 14);
        action();
        Person p = new Person();
        p.look = look;
        p.face = face;
        world.people.add(p);
        return world.people.size() - 1;
    }

    int scene(int look, int many, int day, int place, int minutes) {
        arg(between(look, 0, 4) && between(many, 1, 6) && between(day, 0, 9) && between(place, 0, 3)
                && between(minutes, 10, 240));
        state(world.takes.size() < 10);
        action();
        Take t = new Take();
        t.look = look;
        t.many = many;
        t.day = day;
        t.place = place;
        t.minutes = minutes;
        world.takes.add(t);
        return world.takes.size() - 1;
    }

    private boolean free(int s, int e) {
        Person p = world.people.get(e);
        Take t = world.takes.get(s);
        return p.look == t.look && p.day + t.minutes <= world.settings[0];
    }

    private TreeSet<Integer> chosen(int s) {
        Take t = world.takes.get(s);
        TreeSet<Integer> crowd = new TreeSet<>();
        TreeSet<Integer> faces = new TreeSet<>();
        for (int face : known(s)) {
            if (crowd.size() == t.many || barred(s).contains(face)) {
                continue;
            }
            for (int e = 0; e < world.people.size(); e++) {
                if (free(s, e) && world.people.get(e).face == face) {
                    crowd.add(e);
                    faces.add(face);
                    break;
                }
            }
        }
        while (crowd.size() < t.many) {
            int best = -1;
            for (int e = world.people.size() - 1; e >= 0; e--) {
                int face = world.people.get(e).face;
                if (!free(s, e) || known(s).contains(face) || barred(s).contains(face) || faces.contains(face)) {
                    continue;
                }
                if (best == -1 || world.people.get(e).day <= world.people.get(best).day) {
                    best = e;
                }
            }
            if (best == -1) {
                break;
            }
            crowd.add(best);
            faces.add(world.people.get(best).face);
        }
        return crowd;
    }

    private boolean canShoot(int s) {
        return world.takes.get(s).crowd == null && chosen(s).size() == world.takes.get(s).many;
    }

    int shoot(int s) {
        sceneExists(s);
        state(canShoot(s));
        TreeSet<Integer> crowd = chosen(s);
        action();
        Take t = world.takes.get(s);
        for (int face : known(s)) {
            boolean there = false;
            for (int e : crowd) {
                there |= world.people.get(e).face == face;
            }
            world.breaks += there ? 0 : 1;
        }
        int wage = 0;
        for (int m = 0; m < t.minutes; m += 60) {
            wage += world.settings[1];
        }
        for (int e : crowd) {
            Person p = world.people.get(e);
            p.day += t.minutes;
            p.since += t.minutes;
            p.earned += wage;
            world.wages += wage;
            int due = 0;
            for (int m = 360; m < p.since; m += 30) {
                due++;
            }
            while (p.counted < due) {
                p.counted++;
                p.earned += world.settings[2];
                world.penalties++;
                world.penaltyCosts += world.settings[2];
            }
        }
        t.crowd = crowd;
        return bits(crowd);
    }

    private boolean canReplace(int s, int a, int b) {
        Take t = world.takes.get(s);
        if (t.crowd == null || !t.crowd.contains(a) || t.crowd.contains(b)) {
            return false;
        }
        int face = world.people.get(b).face;
        for (int e : t.crowd) {
            if (e != a && world.people.get(e).face == face) {
                return false;
            }
        }
        return world.people.get(b).look == t.look && !barred(s).contains(face);
    }

    int replace(int s, int a, int b) {
        sceneExists(s);
        extraExists(a);
        extraExists(b);
        state(canReplace(s, a, b));
        action();
        world.takes.get(s).crowd.remove(a);
        world.takes.get(s).crowd.add(b);
        return bits(world.takes.get(s).crowd);
    }

    int meal() {
        action();
        int sum = 0;
        for (Person p : world.people) {
            sum += p.since > 360 ? 1 : 0;
            p.since = 0;
            p.counted = 0;
        }
        return sum;
    }

    int nextDay() {
        action();
        for (Person p : world.people) {
            p.day = 0;
            p.since = 0;
            p.counted = 0;
        }
        return ++world.days;
    }

    int set(int what, int v) {
        int[] least = {240, 1, 0};
        int[] most = {960, 99, 99};
        arg(between(what, 0, 2));
        arg(between(v, least[what], most[what]));
        action();
        int was = world.settings[what];
        world.settings[what] = v;
        return was;
    }

    int undo() {
        state(!past.isEmpty());
        world = past.remove(past.size() - 1);
        return past.size();
    }

    // ---- what would be

    int would(int s, int what) {
        sceneExists(s);
        arg(between(what, 0, 3));
        if (!canShoot(s)) {
            return -1;
        }
        Model m = copy();
        int crowd = m.shoot(s);
        int[] all = {crowd, m.world.wages - world.wages, m.world.penaltyCosts - world.penaltyCosts,
            m.world.breaks - world.breaks};
        return all[what];
    }

    int why(int s, int e) {
        sceneExists(s);
        extraExists(e);
        Person p = world.people.get(e);
        Take t = world.takes.get(s);
        if (p.look != t.look) {
            return 1;
        }
        if (p.day + t.minutes > world.settings[0]) {
            return 2;
        }
        if (barred(s).contains(p.face)) {
            return 3;
        }
        if (!canShoot(s)) {
            return 4;
        }
        for (int o : chosen(s)) {
            if (o != e && world.people.get(o).face == p.face) {
                return 5;
            }
        }
        return chosen(s).contains(e) ? 0 : 6;
    }

    int cheapest() {
        int best = -1;
        for (int s = world.takes.size() - 1; s >= 0; s--) {
            if (canShoot(s)
                    && (best == -1 || would(s, 1) + would(s, 2) <= would(best, 1) + would(best, 2))) {
                best = s;
            }
        }
        return best;
    }

    int lacks(int s) {
        sceneExists(s);
        return world.takes.get(s).many - chosen(s).size();
    }

    private int cost(int a, int b) {
        Model m = copy();
        m.shoot(a);
        m.shoot(b);
        return m.world.wages + m.world.penaltyCosts;
    }

    int order(int a, int b) {
        sceneExists(a);
        sceneExists(b);
        arg(a != b);
        try {
            int first = cost(a, b);
            int second = cost(b, a);
            return first < second ? 0 : first > second ? 1 : 2;
        } catch (IllegalStateException e) {
            return -1;
        }
    }

    // ---- scripts, simulations

    int runScript(int n, long script) {
        arg(between(n, 1, 3));
        arg(script >= 0 && Long.toString(script).length() <= 5 * n);
        String told = "000000000000000" + script;
        told = told.substring(told.length() - 5 * n);
        Model m = copy();
        for (int k = 0; k < n; k++) {
            if (!m.command(told.substring(5 * k, 5 * k + 5))) {
                return k;
            }
        }
        return -1;
    }

    private boolean command(String c) {
        try {
            if (c.matches("1.000")) {
                shoot(part(c, 1, 2));
            } else if (c.equals("20000")) {
                meal();
            } else if (c.equals("30000")) {
                nextDay();
            } else if (c.matches("4...0")) {
                return replaceByLowest(part(c, 1, 2), part(c, 2, 4));
            } else if (c.startsWith("5")) {
                set(part(c, 1, 2), part(c, 2, 5));
            } else if (c.matches("6...0")) {
                int e = part(c, 2, 4);
                extraExists(e);
                return (sceneOf(part(c, 1, 2), 6) >> e & 1) == 1;
            } else if (c.matches("7..0[01]")) {
                return extraOf(part(c, 1, 3), 2) > 0 == c.endsWith("1");
            } else if (c.matches("800..")) {
                return world.penalties <= part(c, 3, 5);
            } else if (c.matches("900..")) {
                return world.breaks <= part(c, 3, 5);
            } else {
                return false;
            }
            return true;
        } catch (RuntimeException e) {
            return false;
        }
    }

    private static int part(String c, int from, int to) {
        return Integer.parseInt(c.substring(from, to));
    }

    private boolean replaceByLowest(int s, int a) {
        for (int b = 0; b < world.people.size(); b++) {
            try {
                replace(s, a, b);
                return true;
            } catch (RuntimeException e) {
                continue;
            }
        }
        return false;
    }

    int simulate(long seed, int m) {
        arg(between(m, 1, 60));
        Model copy = copy();
        long x = seed;
        for (int k = 0; k < m; k++) {
            x = x * 6364136223846793005L + 1442695040888963407L;
            try {
                copy.turn((int) (x >>> 33));
            } catch (RuntimeException e) {
                continue;
            }
        }
        return 10000 * (copy.shot() - shot()) + Math.min(9999, copy.world.penalties - world.penalties);
    }

    private void turn(int r) {
        int q = r / 8;
        int kind = r % 8;
        if (kind <= 1) {
            extra(q % 3, q / 4 % 14);
        } else if (kind == 2) {
            scene(q % 3, 1 + q / 4 % 4, q / 16 % 3, q / 64 % 2, 10 + q / 128 % 231);
        } else if (kind == 3) {
            meal();
        } else if (kind == 4 && q % 4 == 0) {
            nextDay();
        } else if (kind == 4) {
            set(0, 240 + q / 4 % 721);
        } else {
            shoot(q % 10);
        }
    }

    // ---- save slots

    int save(int slot) {
        index(between(slot, 0, 1));
        slots[slot] = world.copy();
        return shot();
    }

    int restore(int slot) {
        index(between(slot, 0, 1));
        state(slots[slot] != null);
        world = slots[slot].copy();
        past.clear();
        return shot();
    }

    @Override
    public String toString() {
        return Arrays.toString(world.settings) + text;
    }
}
