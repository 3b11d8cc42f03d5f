/**
 * The crowds of a film: whom each scene takes, what that costs, and what would be otherwise.
 * What each public member does is said in the project's document, promise by promise.
 */
public final class CrowdFaces {
    public static final int NONE = -1;

    private static final int MOST_EXTRAS = 14;
    private static final int MOST_SCENES = 10;
    private static final int MOST_CHARACTERS = 120;
    private static final int MOST_REMEMBERED = 14;
    private static final int LAST_LOOK = 4;
    private static final int LAST_FACE = 13;
    private static final int MOST_WANTED = 6;
    private static final int LAST_STORY_DAY = 9;
    private static final int LAST_PLACE = 3;
    private static final int SHORTEST_SCENE = 10;
    private static final int LONGEST_SCENE = 240;
    private static final int MINUTES_TO_MEAL = 360;
    private static final int PENALTY_MINUTES = 30;
    private static final int HOUR = 60;
    private static final int MOST_COMMANDS = 3;
    private static final int GROUP = 100000;
    private static final int MOST_TURNS = 60;

    // The numbers that are kept of each extra. The first four are those that extraOf names so.
    private static final int LOOK = 0;
    private static final int FACE = 1;
    private static final int WORKED = 2;
    private static final int SINCE_MEAL = 3;
    private static final int COUNTED = 4;
    private static final int EARNED = 5;
    private static final int EXTRA_KINDS = 6;

    // The numbers that are kept of each scene (its look is LOOK), those up to MINUTES as sceneOf names them.
    private static final int MANY = 1;
    private static final int STORY_DAY = 2;
    private static final int PLACE = 3;
    private static final int MINUTES = 4;
    private static final int CROWD = 5;
    private static final int SCENE_KINDS = 6;

    // Whose faces are asked for: those of the same story day at the same place (known), or at others (barred).
    private static final boolean HERE = true;
    private static final boolean ELSEWHERE = false;

    private static final int LONGEST_DAY = 0;
    private static final int HOURLY_WAGE = 1;
    private static final int PENALTY_COST = 2;
    private static final int SETTINGS = 3;

    // The numbers behind a command's letter, each by its digits, its least and its greatest value.
    private static final int[] EXTRA_FIELDS = {1, 0, 4, 2, 0, 13};
    private static final int[] SCENE_FIELDS = {1, 0, 4, 1, 1, 6, 1, 0, 9, 1, 0, 3, 3, 10, 240};
    private static final int[] SHOOT_FIELDS = {1, 0, 9};
    private static final int[] NO_FIELDS = {};

    private final Film film;
    private final Film trial;
    private final History history;
    private final Slot firstSlot;
    private final Slot secondSlot;
    private final Text text;

    public CrowdFaces() {
        film = new Film();
        trial = new Film();
        history = new History();
        firstSlot = new Slot();
        secondSlot = new Slot();
        text = new Text();
    }

    // ---- text

    public int append(int c) throws IllegalArgumentException, IllegalStateException {
        requireArgument(isIn(c, 0, 255));
        requireState(text.size() < MOST_CHARACTERS);
        return text.addCharacter(c);
    }

    public int clearText() {
        return text.empty();
    }

    public int errorPosition() {
        return text.firstError();
    }

    public int load() throws IllegalStateException {
        requireState(text.firstError() == NONE);
        film.startNew();
        history.forget();
        firstSlot.empty();
        secondSlot.empty();
        int leftOut = 0;
        int at = 1;
        for (int k = 0; k < MOST_CHARACTERS && at < text.size(); k++) {
            if (!doTextCommand(at)) {
                leftOut++;
            }
            at += text.commandLength(at);
        }
        return leftOut;
    }

    // ---- what there is

    public int about(int what) throws IllegalArgumentException {
        requireArgument(isIn(what, 0, 8));
        return film.total(what);
    }

    public int extraOf(int e, int what) throws IndexOutOfBoundsException, IllegalArgumentException {
        requireExtra(e);
        requireArgument(isIn(what, 0, 6));
        return film.numberOfExtra(e, what);
    }

    public int sceneOf(int s, int what) throws IndexOutOfBoundsException, IllegalArgumentException {
        requireScene(s);
        requireArgument(isIn(what, 0, 8));
        return film.numberOfScene(s, what);
    }

    public int setting(int what) throws IllegalArgumentException {
        requireArgument(isIn(what, 0, SETTINGS - 1));
        return film.valueOf(what);
    }

    // ---- actions

    public int extra(int look, int face) throws IllegalArgumentException, IllegalStateException {
        requireArgument(isIn(look, 0, LAST_LOOK) && isIn(face, 0, LAST_FACE));
        requireState(film.hasRoomForExtra());
        history.remember(film);
        return film.addExtra(look, face);
    }

    public int scene(int look, int many, int day, int place, int minutes)
            throws IllegalArgumentException, IllegalStateException {
        requireArgument(isIn(look, 0, LAST_LOOK) && isIn(many, 1, MOST_WANTED) && isIn(day, 0, LAST_STORY_DAY)
                && isIn(place, 0, LAST_PLACE) && isIn(minutes, SHORTEST_SCENE, LONGEST_SCENE));
        requireState(film.hasRoomForScene());
        history.remember(film);
        return film.addScene(look, many, day, place, minutes);
    }

    public int shoot(int s) throws IndexOutOfBoundsException, IllegalStateException {
        requireScene(s);
        int crowd = film.crowdNow(s);
        requireState(crowd != 0);
        history.remember(film);
        film.work(s, crowd);
        return crowd;
    }

    public int replace(int s, int a, int b) throws IndexOutOfBoundsException, IllegalStateException {
        requireScene(s);
        requireExtra(a);
        requireExtra(b);
        requireState(film.canExchange(s, a, b));
        history.remember(film);
        return film.exchange(s, a, b);
    }

    public int meal() {
        history.remember(film);
        return film.eat();
    }

    public int nextDay() {
        history.remember(film);
        return film.beginDay();
    }

    public int set(int what, int v) throws IllegalArgumentException {
        requireArgument(isSetting(what, v));
        history.remember(film);
        return film.change(what, v);
    }

    public int undo() throws IllegalStateException {
        requireState(history.size() > 0);
        return history.takeBack(film);
    }

    // ---- what would be

    public int would(int s, int what) throws IndexOutOfBoundsException, IllegalArgumentException {
        requireScene(s);
        requireArgument(isIn(what, 0, 3));
        int crowd = film.crowdNow(s);
        if (crowd == 0) {
            return NONE;
        }
        switch (what) {
            case 0:
                return crowd;
            case 1:
                return film.wagesOf(s, crowd);
            case 2:
                return film.penaltyCostsOf(s, crowd);
            default:
                return film.breaksOf(s, crowd);
        }
    }

    public int why(int s, int e) throws IndexOutOfBoundsException {
        requireScene(s);
        requireExtra(e);
        return film.reason(s, e);
    }

    public int cheapest() {
        int best = NONE;
        int least = 0;
        for (int s = 0; s < MOST_SCENES; s++) {
            int crowd = film.crowdNow(s);
            if (crowd != 0) {
                int cost = film.costOf(s, crowd);
                if (best == NONE || cost < least) {
                    best = s;
                    least = cost;
                }
            }
        }
        return best;
    }

    public int lacks(int s) throws IndexOutOfBoundsException {
        requireScene(s);
        return film.lackOf(s);
    }

    public int order(int a, int b) throws IndexOutOfBoundsException, IllegalArgumentException {
        requireScene(a);
        requireScene(b);
        requireArgument(a != b);
        int forward = costInTurn(a, b);
        int backward = costInTurn(b, a);
        if (forward == NONE || backward == NONE) {
            return NONE;
        }
        if (forward == backward) {
            return 2;
        }
        return forward < backward ? 0 : 1;
    }

    // ---- scripts, simulations

    public int runScript(int n, long script) throws IllegalArgumentException {
        requireArgument(isIn(n, 1, MOST_COMMANDS));
        requireArgument(script >= 0 && script < groupUnit(n));
        trial.copy(film);
        for (int k = 0; k < n && k < MOST_COMMANDS; k++) {
            int group = groupOf(script, n - 1 - k);
            if (!Script.succeeds(trial, group)) {
                return k;
            }
        }
        return NONE;
    }

    public int simulate(long seed, int m) throws IllegalArgumentException {
        requireArgument(isIn(m, 1, MOST_TURNS));
        trial.copy(film);
        long x = seed;
        for (int k = 0; k < m && k < MOST_TURNS; k++) {
            x = x * 6364136223846793005L + 1442695040888963407L;
            Simulation.turn(trial, (int) (x >>> 33));
        }
        int shot = trial.shotScenes() - film.shotScenes();
        int penalties = trial.allPenalties() - film.allPenalties();
        return 10000 * shot + Math.min(penalties, 9999);
    }

    // ---- save slots

    public int save(int slot) throws IndexOutOfBoundsException {
        requireIndex(isIn(slot, 0, 1));
        slotOf(slot).keep(film);
        return film.shotScenes();
    }

    public int restore(int slot) throws IndexOutOfBoundsException, IllegalStateException {
        requireIndex(isIn(slot, 0, 1));
        requireState(slotOf(slot).isFilled());
        slotOf(slot).giveBack(film);
        history.forget();
        return film.shotScenes();
    }

    // ---- what the calls above share

    private static void requireArgument(boolean right) {
        if (!right) {
            throw new IllegalArgumentException("an argument is out of its range");
        }
    }

    private static void requireState(boolean right) {
        if (!right) {
            throw new IllegalStateException("this cannot be done now");
        }
    }

    private static void requireIndex(boolean right) {
        if (!right) {
            throw new IndexOutOfBoundsException("there is no such extra, scene or slot");
        }
    }

    private void requireExtra(int e) {
        requireIndex(film.isExtra(e));
    }

    private void requireScene(int s) {
        requireIndex(film.isScene(s));
    }

    private static boolean isIn(int v, int least, int greatest) {
        return v >= least && v <= greatest;
    }

    private static boolean isSetting(int what, int v) {
        switch (what) {
            case LONGEST_DAY:
                return isIn(v, 240, 960);
            case HOURLY_WAGE:
                return isIn(v, 1, 99);
            case PENALTY_COST:
                return isIn(v, 0, 99);
            default:
                return false;
        }
    }

    private static boolean has(int set, int k) {
        return (set >> k & 1) == 1;
    }

    private static int begun(int minutes, int unit) {
        return minutes <= 0 || unit <= 0 ? 0 : (minutes - 1) / unit + 1;
    }

    private Slot slotOf(int slot) {
        return slot == 0 ? firstSlot : secondSlot;
    }

    private boolean doTextCommand(int at) {
        switch (text.characterAt(at)) {
            case 'e':
                return film.addExtra(text.number(at + 1, 1), text.number(at + 2, 2)) != NONE;
            case 's':
                return film.addScene(text.number(at + 1, 1), text.number(at + 2, 1), text.number(at + 3, 1),
                        text.number(at + 4, 1), text.number(at + 5, 3)) != NONE;
            case 'g':
                return film.shootIfPossible(text.number(at + 1, 1));
            case 'm':
                film.eat();
                return true;
            case 'n':
                film.beginDay();
                return true;
            default:
                return false;
        }
    }

    private int costInTurn(int first, int second) {
        trial.copy(film);
        if (!trial.shootIfPossible(first) || !trial.shootIfPossible(second)) {
            return NONE;
        }
        return trial.allCosts() - film.allCosts();
    }

    private static long groupUnit(int groups) {
        long unit = 1;
        for (int k = 0; k < groups && k < MOST_COMMANDS; k++) {
            unit *= GROUP;
        }
        return unit;
    }

    private static int groupOf(long script, int groupsBehind) {
        long rest = script;
        for (int k = 0; k < groupsBehind && k < MOST_COMMANDS; k++) {
            rest /= GROUP;
        }
        return (int) (rest % GROUP);
    }

    /**
     * Numbers by kind and column. Every index of the program's own numbers is tested here, in one
     * place: a cell that there isn't is 0, and writing to it does nothing.
     */
    private static final class Table {
        private final int width;
        private final int[] cells;

        Table(int kinds, int width) {
            this.width = width;
            cells = new int[Math.max(0, kinds * width)];
        }

        int get(int kind, int column) {
            int at = kind * width + column;
            return column >= 0 && column < width && at >= 0 && at < cells.length ? cells[at] : 0;
        }

        void put(int kind, int column, int v) {
            int at = kind * width + column;
            if (column >= 0 && column < width && at >= 0 && at < cells.length) {
                cells[at] = v;
            }
        }

        void add(int kind, int column, int more) {
            put(kind, column, get(kind, column) + more);
        }

        void fillKind(int kind, int v) {
            for (int column = 0; column < width; column++) {
                put(kind, column, v);
            }
        }

        void fillAll(int v) {
            for (int at = 0; at < cells.length; at++) {
                cells[at] = v;
            }
        }

        void copy(Table from) {
            for (int at = 0; at < cells.length && at < from.cells.length; at++) {
                cells[at] = from.cells[at];
            }
        }
    }

    /** The state: all that undo, save and restore bring back. */
    private static final class Film {
        private final Table extras;
        // A crowd is never empty once its scene has been shot, so CROWD also tells whether it has been.
        private final Table scenes;
        private final Table settings;
        private int extraCount;
        private int sceneCount;
        private int days;
        private int wages;
        private int penaltyCosts;
        private int penalties;
        private int breaks;

        Film() {
            extras = new Table(EXTRA_KINDS, MOST_EXTRAS);
            scenes = new Table(SCENE_KINDS, MOST_SCENES);
            settings = new Table(SETTINGS, 1);
            startNew();
        }

        void startNew() {
            extras.fillAll(0);
            scenes.fillAll(0);
            settings.put(LONGEST_DAY, 0, 600);
            settings.put(HOURLY_WAGE, 0, 10);
            settings.put(PENALTY_COST, 0, 5);
            extraCount = 0;
            sceneCount = 0;
            days = 0;
            wages = 0;
            penaltyCosts = 0;
            penalties = 0;
            breaks = 0;
        }

        void copy(Film from) {
            extras.copy(from.extras);
            scenes.copy(from.scenes);
            settings.copy(from.settings);
            extraCount = from.extraCount;
            sceneCount = from.sceneCount;
            days = from.days;
            wages = from.wages;
            penaltyCosts = from.penaltyCosts;
            penalties = from.penalties;
            breaks = from.breaks;
        }

        // ---- what there is

        boolean isExtra(int e) {
            return e >= 0 && e < extraCount;
        }

        boolean isScene(int s) {
            return s >= 0 && s < sceneCount;
        }

        boolean hasRoomForExtra() {
            return extraCount < MOST_EXTRAS;
        }

        boolean hasRoomForScene() {
            return sceneCount < MOST_SCENES;
        }

        int valueOf(int what) {
            return settings.get(what, 0);
        }

        int crowdOf(int s) {
            return scenes.get(CROWD, s);
        }

        boolean hasWorked(int e) {
            return extras.get(WORKED, e) > 0;
        }

        int allPenalties() {
            return penalties;
        }

        int allBreaks() {
            return breaks;
        }

        int allCosts() {
            return wages + penaltyCosts;
        }

        int shotScenes() {
            int shot = 0;
            for (int s = 0; s < sceneCount; s++) {
                if (crowdOf(s) != 0) {
                    shot++;
                }
            }
            return shot;
        }

        int total(int what) {
            switch (what) {
                case 0:
                    return extraCount;
                case 1:
                    return sceneCount;
                case 2:
                    return shotScenes();
                case 3:
                    return days;
                case 4:
                    return wages;
                case 5:
                    return penaltyCosts;
                case 6:
                    return penalties;
                case 7:
                    return breaks;
                default:
                    return Integer.bitCount(facesOf(~0));
            }
        }

        int numberOfExtra(int e, int what) {
            switch (what) {
                case 4:
                    return scenesWith(e);
                case 5:
                    return withFaces(~(1 << e), 1 << extras.get(FACE, e));
                case 6:
                    return extras.get(EARNED, e);
                default:
                    return extras.get(what, e);
            }
        }

        int numberOfScene(int s, int what) {
            switch (what) {
                case 5:
                    return crowdOf(s) != 0 ? 1 : 0;
                case 6:
                    return crowdOf(s);
                case 7:
                    return facesOf(castOf(s, HERE));
                case 8:
                    return facesOf(castOf(s, ELSEWHERE));
                default:
                    return scenes.get(what, s);
            }
        }

        private int scenesWith(int e) {
            int sum = 0;
            for (int s = 0; s < sceneCount; s++) {
                if (has(crowdOf(s), e)) {
                    sum++;
                }
            }
            return sum;
        }

        // ---- faces

        /** All extras in the crowds of the other scenes of the same story day, here or elsewhere. */
        private int castOf(int s, boolean here) {
            int day = scenes.get(STORY_DAY, s);
            int place = scenes.get(PLACE, s);
            int cast = 0;
            for (int t = 0; t < sceneCount; t++) {
                boolean samePlace = scenes.get(PLACE, t) == place;
                if (t != s && scenes.get(STORY_DAY, t) == day && samePlace == here) {
                    cast |= scenes.get(CROWD, t);
                }
            }
            return cast;
        }

        private int facesOf(int some) {
            int faces = 0;
            for (int e = 0; e < extraCount; e++) {
                if (has(some, e)) {
                    faces |= 1 << extras.get(FACE, e);
                }
            }
            return faces;
        }

        /** Those of some extras whose face is among these. */
        private int withFaces(int some, int faces) {
            int found = 0;
            for (int e = 0; e < extraCount; e++) {
                if (has(some, e) && has(faces, extras.get(FACE, e))) {
                    found |= 1 << e;
                }
            }
            return found;
        }

        // ---- the crowd

        private int withRightLook(int s) {
            int look = scenes.get(LOOK, s);
            int found = 0;
            for (int e = 0; e < extraCount; e++) {
                if (extras.get(LOOK, e) == look) {
                    found |= 1 << e;
                }
            }
            return found;
        }

        private int withTime(int s) {
            int mostBefore = settings.get(LONGEST_DAY, 0) - scenes.get(MINUTES, s);
            int found = 0;
            for (int e = 0; e < extraCount; e++) {
                if (extras.get(WORKED, e) <= mostBefore) {
                    found |= 1 << e;
                }
            }
            return found;
        }

        /** The extra with the fewest minutes of this day, the lowest of several, as a set. */
        private int leastWorked(int some) {
            int best = NONE;
            for (int e = 0; e < extraCount; e++) {
                if (has(some, e) && (best == NONE || extras.get(WORKED, e) < extras.get(WORKED, best))) {
                    best = e;
                }
            }
            return best == NONE ? 0 : 1 << best;
        }

        /** The crowd as far as it can be chosen now: it may be too small. */
        private int chosenCrowd(int s) {
            int many = scenes.get(MANY, s);
            int free = withRightLook(s) & withTime(s);
            int known = facesOf(castOf(s, HERE));
            int barred = facesOf(castOf(s, ELSEWHERE));
            int crowd = 0;
            for (int face = 0; face <= LAST_FACE && Integer.bitCount(crowd) < many; face++) {
                int seen = withFaces(free, known & ~barred & 1 << face);
                crowd |= seen & -seen;
            }
            int rest = withFaces(free, ~(known | barred));
            for (int k = 0; k < MOST_EXTRAS && rest != 0 && Integer.bitCount(crowd) < many; k++) {
                int next = leastWorked(rest);
                crowd |= next;
                rest = withFaces(rest, ~facesOf(next));
            }
            return crowd;
        }

        int lackOf(int s) {
            return scenes.get(MANY, s) - Integer.bitCount(chosenCrowd(s));
        }

        /** The crowd if the scene was shot now; 0 if it has been shot, cannot be shot, or there is no such scene. */
        int crowdNow(int s) {
            if (!isScene(s) || crowdOf(s) != 0) {
                return 0;
            }
            int crowd = chosenCrowd(s);
            return Integer.bitCount(crowd) < scenes.get(MANY, s) ? 0 : crowd;
        }

        int reason(int s, int e) {
            int face = 1 << extras.get(FACE, e);
            if (!has(withRightLook(s), e)) {
                return 1;
            }
            if (!has(withTime(s), e)) {
                return 2;
            }
            if ((facesOf(castOf(s, ELSEWHERE)) & face) != 0) {
                return 3;
            }
            int crowd = crowdNow(s);
            if (crowd == 0) {
                return 4;
            }
            if (has(crowd, e)) {
                return 0;
            }
            return (facesOf(crowd) & face) != 0 ? 5 : 6;
        }

        // ---- what a crowd costs

        private int wageOf(int s) {
            return begun(scenes.get(MINUTES, s), HOUR) * settings.get(HOURLY_WAGE, 0);
        }

        int wagesOf(int s, int crowd) {
            return Integer.bitCount(crowd) * wageOf(s);
        }

        private int newPenalties(int s, int e) {
            int above = extras.get(SINCE_MEAL, e) + scenes.get(MINUTES, s) - MINUTES_TO_MEAL;
            return begun(above, PENALTY_MINUTES) - extras.get(COUNTED, e);
        }

        int penaltyCostsOf(int s, int crowd) {
            int sum = 0;
            for (int e = 0; e < extraCount; e++) {
                if (has(crowd, e)) {
                    sum += newPenalties(s, e);
                }
            }
            return sum * settings.get(PENALTY_COST, 0);
        }

        int costOf(int s, int crowd) {
            return wagesOf(s, crowd) + penaltyCostsOf(s, crowd);
        }

        int breaksOf(int s, int crowd) {
            return Integer.bitCount(facesOf(castOf(s, HERE)) & ~facesOf(crowd));
        }

        // ---- changes

        /** The number of the new extra; NONE if there is no room. */
        int addExtra(int look, int face) {
            if (!hasRoomForExtra()) {
                return NONE;
            }
            int e = extraCount;
            extras.put(LOOK, e, look);
            extras.put(FACE, e, face);
            extraCount++;
            return e;
        }

        /** The number of the new scene; NONE if there is no room. */
        int addScene(int look, int many, int day, int place, int minutes) {
            if (!hasRoomForScene()) {
                return NONE;
            }
            int s = sceneCount;
            scenes.put(LOOK, s, look);
            scenes.put(MANY, s, many);
            scenes.put(STORY_DAY, s, day);
            scenes.put(PLACE, s, place);
            scenes.put(MINUTES, s, minutes);
            sceneCount++;
            return s;
        }

        boolean shootIfPossible(int s) {
            int crowd = crowdNow(s);
            if (crowd == 0) {
                return false;
            }
            work(s, crowd);
            return true;
        }

        void work(int s, int crowd) {
            wages += wagesOf(s, crowd);
            breaks += breaksOf(s, crowd);
            for (int e = 0; e < extraCount; e++) {
                if (has(crowd, e)) {
                    workOne(s, e);
                }
            }
            scenes.put(CROWD, s, crowd);
        }

        private void workOne(int s, int e) {
            int more = newPenalties(s, e);
            int cost = more * settings.get(PENALTY_COST, 0);
            extras.add(COUNTED, e, more);
            extras.add(EARNED, e, wageOf(s) + cost);
            extras.add(WORKED, e, scenes.get(MINUTES, s));
            extras.add(SINCE_MEAL, e, scenes.get(MINUTES, s));
            penalties += more;
            penaltyCosts += cost;
        }

        boolean canExchange(int s, int a, int b) {
            if (!isScene(s) || !isExtra(a) || !isExtra(b)) {
                return false;
            }
            int crowd = crowdOf(s);
            if (!has(crowd, a) || has(crowd, b) || !has(withRightLook(s), b)) {
                return false;
            }
            int others = facesOf(crowd & ~(1 << a));
            return !has(others | facesOf(castOf(s, ELSEWHERE)), extras.get(FACE, b));
        }

        int exchange(int s, int a, int b) {
            int crowd = crowdOf(s) & ~(1 << a) | 1 << b;
            scenes.put(CROWD, s, crowd);
            return crowd;
        }

        boolean exchangeForLowest(int s, int a) {
            for (int b = 0; b < extraCount; b++) {
                if (canExchange(s, a, b)) {
                    exchange(s, a, b);
                    return true;
                }
            }
            return false;
        }

        /** How many had waited too long for it. */
        int eat() {
            int late = 0;
            for (int e = 0; e < extraCount; e++) {
                if (extras.get(SINCE_MEAL, e) > MINUTES_TO_MEAL) {
                    late++;
                }
            }
            extras.fillKind(SINCE_MEAL, 0);
            extras.fillKind(COUNTED, 0);
            return late;
        }

        int beginDay() {
            extras.fillKind(WORKED, 0);
            extras.fillKind(SINCE_MEAL, 0);
            extras.fillKind(COUNTED, 0);
            days++;
            return days;
        }

        int change(int what, int v) {
            int previous = valueOf(what);
            settings.put(what, 0, v);
            return previous;
        }
    }

    /** The states before the latest actions, in a ring, so that no call makes a new one. */
    private static final class History {
        private final Film[] ring;
        private int oldest;
        private int count;

        History() {
            ring = new Film[MOST_REMEMBERED];
            for (int k = 0; k < ring.length; k++) {
                ring[k] = new Film();
            }
        }

        int size() {
            return count;
        }

        void forget() {
            count = 0;
        }

        private Film memory(int age) {
            int at = (oldest + age) % MOST_REMEMBERED;
            return at >= 0 && at < ring.length ? ring[at] : null;
        }

        void remember(Film film) {
            if (count < MOST_REMEMBERED) {
                count++;
            } else {
                oldest = (oldest + 1) % MOST_REMEMBERED;
            }
            Film newest = memory(count - 1);
            if (newest != null) {
                newest.copy(film);
            }
        }

        int takeBack(Film film) {
            Film newest = memory(count - 1);
            if (count > 0 && newest != null) {
                film.copy(newest);
                count--;
            }
            return count;
        }
    }

    private static final class Slot {
        private final Film kept;
        private boolean filled;

        Slot() {
            kept = new Film();
        }

        boolean isFilled() {
            return filled;
        }

        void empty() {
            filled = false;
        }

        void keep(Film film) {
            kept.copy(film);
            filled = true;
        }

        void giveBack(Film film) {
            film.copy(kept);
        }
    }

    /** The text buffer, and the rules by which it is a film. */
    private static final class Text {
        private final Table characters;
        private int length;

        Text() {
            characters = new Table(1, MOST_CHARACTERS);
        }

        int size() {
            return length;
        }

        int addCharacter(int c) {
            if (length < MOST_CHARACTERS) {
                characters.put(0, length, c);
                length++;
            }
            return length;
        }

        int empty() {
            int previous = length;
            length = 0;
            return previous;
        }

        int characterAt(int at) {
            return characters.get(0, at);
        }

        int number(int at, int digits) {
            int value = 0;
            for (int k = 0; k < digits; k++) {
                value = value * 10 + characterAt(at + k) - '0';
            }
            return value;
        }

        /** With its letter. */
        int commandLength(int at) {
            int[] fields = fieldsOf(characterAt(at));
            int sum = 1;
            for (int k = 0; k < fields.length; k += 3) {
                sum += fields[k];
            }
            return sum;
        }

        int firstError() {
            if (length == 0 || characterAt(0) != 'F') {
                return 0;
            }
            int at = 1;
            for (int k = 0; k < MOST_CHARACTERS && at < length; k++) {
                int wrong = commandError(at);
                if (wrong != NONE) {
                    return wrong;
                }
                at += commandLength(at);
            }
            return NONE;
        }

        private static boolean isCommand(int letter) {
            return letter == 'e' || letter == 's' || letter == 'g' || letter == 'm' || letter == 'n';
        }

        private static int[] fieldsOf(int letter) {
            switch (letter) {
                case 'e':
                    return EXTRA_FIELDS;
                case 's':
                    return SCENE_FIELDS;
                case 'g':
                    return SHOOT_FIELDS;
                default:
                    return NO_FIELDS;
            }
        }

        private int commandError(int at) {
            if (!isCommand(characterAt(at))) {
                return at;
            }
            int[] fields = fieldsOf(characterAt(at));
            int from = at + 1;
            for (int k = 0; k + 2 < fields.length; k += 3) {
                int wrong = numberError(from, fields[k], fields[k + 1], fields[k + 2]);
                if (wrong != NONE) {
                    return wrong;
                }
                from += fields[k];
            }
            return NONE;
        }

        private int numberError(int from, int digits, int least, int greatest) {
            int unit = digits == 3 ? 100 : digits == 2 ? 10 : 1;
            int value = 0;
            for (int k = 0; k < digits; k++) {
                int at = from + k;
                if (at >= length) {
                    return length;
                }
                int digit = characterAt(at) - '0';
                // The numbers that begin with these digits are value to value + unit - 1.
                value += digit * unit;
                if (!isIn(digit, 0, 9) || value > greatest || value + unit - 1 < least) {
                    return at;
                }
                unit /= 10;
            }
            return NONE;
        }
    }

    /** The commands of scripts, each a group of five digits. */
    private static final class Script {
        static boolean succeeds(Film film, int group) {
            switch (group / 10000) {
                case 1:
                    return group % 1000 == 0 && film.shootIfPossible(group / 1000 % 10);
                case 2:
                    return group % 10000 == 0 && film.eat() >= 0;
                case 3:
                    return group % 10000 == 0 && film.beginDay() > 0;
                case 4:
                    return group % 10 == 0 && film.exchangeForLowest(group / 1000 % 10, group / 10 % 100);
                case 5:
                    return changes(film, group / 1000 % 10, group % 1000);
                case 6:
                    return group % 10 == 0 && isCast(film, group / 1000 % 10, group / 10 % 100);
                case 7:
                    return worksSo(film, group / 100 % 100, group % 100);
                case 8:
                    return group / 100 % 100 == 0 && film.allPenalties() <= group % 100;
                case 9:
                    return group / 100 % 100 == 0 && film.allBreaks() <= group % 100;
                default:
                    return false;
            }
        }

        private static boolean changes(Film film, int what, int v) {
            if (!isSetting(what, v)) {
                return false;
            }
            film.change(what, v);
            return true;
        }

        private static boolean isCast(Film film, int s, int e) {
            return film.isScene(s) && film.isExtra(e) && has(film.crowdOf(s), e);
        }

        private static boolean worksSo(Film film, int e, int worked) {
            return film.isExtra(e) && isIn(worked, 0, 1) && film.hasWorked(e) == (worked == 1);
        }
    }

    /** The turns of simulations; what cannot be done is left out. */
    private static final class Simulation {
        static void turn(Film film, int r) {
            int q = r / 8;
            switch (r % 8) {
                case 0:
                case 1:
                    film.addExtra(q % 3, q / 4 % 14);
                    break;
                case 2:
                    film.addScene(q % 3, 1 + q / 4 % 4, q / 16 % 3, q / 64 % 2, 10 + q / 128 % 231);
                    break;
                case 3:
                    film.eat();
                    break;
                case 4:
                    if (q % 4 == 0) {
                        film.beginDay();
                    } else {
                        film.change(LONGEST_DAY, 240 + q / 4 % 721);
                    }
                    break;
                default:
                    film.shootIfPossible(q % 10);
                    break;
            }
        }
    }
}
