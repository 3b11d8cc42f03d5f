/** The sentences on the text, and promises 1 to 5: each at its bounds. */
public final class TextTest {
    private static final Class<IllegalArgumentException> ARGUMENT = Check.ARGUMENT;
    private static final Class<IllegalStateException> STATE = Check.STATE;
    private static final int NONE = CrowdFaces.NONE;
    private static final String DIGITS = "0123456789";
    private static final String LETTERS = "esgmn";

    /** What may stand behind the start of a film: the start, and the characters that are allowed there. */
    private static final String[][] ALLOWED = {
        {"", "F"},
        {"F", LETTERS},
        {"Fe", "01234"},
        {"Fe0", "01"}, {"Fe1", "01"}, {"Fe2", "01"}, {"Fe3", "01"}, {"Fe4", "01"},
        {"Fe00", DIGITS}, {"Fe40", DIGITS},
        {"Fe01", "0123"}, {"Fe41", "0123"},
        {"Fe000", LETTERS}, {"Fe413", LETTERS},
        {"Fs", "01234"},
        {"Fs0", "123456"}, {"Fs4", "123456"},
        {"Fs01", DIGITS}, {"Fs46", DIGITS},
        {"Fs010", "0123"}, {"Fs469", "0123"},
        {"Fs0100", "012"}, {"Fs4693", "012"},
        {"Fs01000", "123456789"},
        {"Fs01001", DIGITS},
        {"Fs01002", "01234"},
        {"Fs010001", DIGITS}, {"Fs010009", DIGITS}, {"Fs010010", DIGITS}, {"Fs010019", DIGITS},
        {"Fs010020", DIGITS}, {"Fs010023", DIGITS},
        {"Fs010024", "0"},
        {"Fs0100010", LETTERS}, {"Fs4693240", LETTERS},
        {"Fg", DIGITS},
        {"Fg0", LETTERS}, {"Fg9", LETTERS},
        {"Fm", LETTERS},
        {"Fn", LETTERS},
        {"Fe000s0100010g0mne", "01234"},
        {"Fe000s0100010g0mns01000", "123456789"},
    };

    private TextTest() {
    }

    public static void main(String[] args) {
        newObject();
        characterCodes();
        atMost120();
        clearText();
        firstCharacterNotAllowed();
        allowedWithOthers();
        endsTooSoon();
        anyNumberOfCommands();
        fullTexts();
        noBlanks();
        errorPositionChangesNothing();
        loadAsInANewObject();
        loadDoesTheCommands();
        leftOut();
        behindLoad();
        loadIsNoAction();
        loadKeepsTheText();
        loadRefused();
        Check.finish();
    }

    private static int error(String text) {
        Subject x = new Subject();
        x.write(text);
        return x.errorPosition();
    }

    private static Subject with(String text) {
        Subject x = new Subject();
        x.write(text);
        return x;
    }

    /** A subject with all that load must take away: counts, settings, remembered states, and both slots. */
    static Subject rich() {
        Subject x = Subject.loaded("Fe000e001e102e203s0200240s0210200s1100010s2301010s0120240s0130010g0");
        x.save(0);
        x.set(0, 900);
        x.set(1, 7);
        x.set(2, 9);
        x.shoot(1);
        x.shoot(2);
        x.replace(1, 0, x.extra(0, 4));
        x.save(1);
        x.nextDay();
        x.shoot(4);
        return x;
    }

    private static void newObject() {
        Check.sentence("Creates a film without extras and scenes.");
        Subject x = new Subject();
        for (int what = 0; what <= 8; what++) {
            Check.same("about(" + what + ")", x.about(what), 0);
        }
        Check.refuses("no extra", x, Check.INDEX, o -> o.extraOf(0, 0));
        Check.refuses("no scene", x, Check.INDEX, o -> o.sceneOf(0, 0));
        Check.refuses("nothing is remembered", x, STATE, o -> o.undo());
        Check.refuses("slot 0 is empty", x, STATE, o -> o.restore(0));
        Check.refuses("slot 1 is empty", x, STATE, o -> o.restore(1));
        Check.same("no text", x.errorPosition(), 0);
        Check.same("no text", x.clearText(), 0);
    }

    private static void characterCodes() {
        Check.sentence("c: character code, 0 to 255");
        Check.range("append", with("Fe"), ARGUMENT, 0, 255, v -> o -> o.append(v));
        Subject x = new Subject();
        int length = 0;
        for (int c : new int[] {0, 1, 127, 128, 254, 255}) {
            length++;
            Check.same("append(" + c + ")", x.append(c), length);
        }
        for (int c = 0; c < 256; c++) {
            Subject y = new Subject();
            Check.same("append(" + c + ")", y.append(c), 1);
            Check.same("a first character " + c, y.errorPosition(), c == 'F' ? NONE : 0);
        }
    }

    private static void atMost120() {
        Check.sentence("The object has a text buffer of at most 120 characters.");
        Subject x = new Subject();
        for (int length = 1; length <= 120; length++) {
            Check.same("the new length", x.append(length == 1 ? 'F' : 'm'), length);
        }
        for (int c : new int[] {0, 'm', 'F', 255}) {
            Check.refuses("the 121st character", x, STATE, o -> o.append(c));
        }
        Check.sentence("If several exceptions apply to a call, the one that its description names first is thrown.");
        Check.refuses("a wrong 121st character", x, ARGUMENT, o -> o.append(256));
        Check.refuses("a wrong 121st character", x, ARGUMENT, o -> o.append(-1));
        Check.sentence("The object has a text buffer of at most 120 characters.");
        Check.same("all of them are there", x.clearText(), 120);
        Check.same("room again", x.append('F'), 1);
        for (int length : new int[] {118, 119}) {
            Subject y = with("F" + "m".repeat(length - 1));
            Check.same("behind " + length, y.append('n'), length + 1);
            Check.same("a film", y.errorPosition(), NONE);
        }
    }

    private static void clearText() {
        Check.sentence("Empties the text buffer. Returns the previous length of the text.");
        for (int length : new int[] {0, 1, 2, 119, 120}) {
            Subject x = with("m".repeat(length));
            Check.same("of " + length, x.clearText(), length);
            Check.same("empty", x.clearText(), 0);
            Check.same("nothing is left of it", x.errorPosition(), 0);
            Check.same("from the start", x.append('F'), 1);
            Check.same("from the start", x.errorPosition(), NONE);
        }
        Check.sentence("the state, which consists of everything but the text and the save slots");
        Subject x = rich();
        String state = Looks.of(x);
        int remembered = Check.remembered(x);
        x.clearText();
        Check.same("the state behind clearText", Looks.of(x), state);
        Check.same("clearText is no action", Check.remembered(x), remembered);
    }

    private static void firstCharacterNotAllowed() {
        Check.sentence("The error position is the index of the first character that these rules do not allow at its "
                + "place (a digit is not allowed if no number that is allowed begins with it and those before it)");
        for (String[] row : ALLOWED) {
            for (int c = 0; c < 256; c++) {
                if (row[1].indexOf((char) c) < 0) {
                    String text = row[0] + (char) c;
                    Check.same(text + " (" + c + ")", error(text), row[0].length());
                    Check.same(text + "m", error(text + "m"), row[0].length());
                    Check.same(text + "000", error(text + "000"), row[0].length());
                    Check.same(text + (char) 255, error(text + (char) 255), row[0].length());
                }
            }
        }
    }

    private static void allowedWithOthers() {
        Check.sentence("if the text ends too soon, it is the length of the text");
        for (String[] row : ALLOWED) {
            for (char c : row[1].toCharArray()) {
                String text = row[0] + c;
                int due = isWhole(text) ? NONE : text.length();
                Check.same(text, error(text), due);
            }
        }
    }

    /** By the lengths of the commands alone: all of its characters are allowed. */
    private static boolean isWhole(String text) {
        int at = 1;
        while (at < text.length()) {
            char c = text.charAt(at);
            at += c == 'e' ? 4 : c == 's' ? 8 : c == 'g' ? 2 : 1;
        }
        return at == text.length();
    }

    private static void endsTooSoon() {
        Check.sentence("if the text ends too soon, it is the length of the text");
        String film = "Fs0100010e413g9mns4693240e010g0";
        // The lengths at which a command ends.
        String ends = " 1 9 13 15 16 17 25 29 31 ";
        Subject x = new Subject();
        Check.same("an empty text", x.errorPosition(), 0);
        for (int length = 1; length <= film.length(); length++) {
            x.append(film.charAt(length - 1));
            boolean complete = ends.contains(" " + length + " ");
            Check.same(film.substring(0, length), x.errorPosition(), complete ? NONE : length);
        }
    }

    private static void anyNumberOfCommands() {
        Check.sentence("A film as a text is the letter F, and then any number of commands");
        for (int commands = 0; commands <= 119; commands++) {
            Subject x = with("F" + "mn".repeat(60).substring(0, commands));
            Check.same(commands + " commands", x.errorPosition(), NONE);
            Check.same("none is left out", x.load(), 0);
            Check.same("days", x.about(3), commands / 2);
        }
    }

    private static void fullTexts() {
        Check.sentence("if the text ends too soon, it is the length of the text");
        String mmm = "F" + "m".repeat(108);
        Check.same("a film of 119 characters", error(mmm + "e413" + "mmmmmm"), NONE);
        Check.same("a film of 120 characters", error(mmm + "mms4693240" + "m"), NONE);
        String[] cut = {"mmmmmmmmmms", "mmmmmmmmms4", "mmmmmmmms46", "mmmmmmms469", "mmmmmms4693", "mmmmms46932",
            "mmmms469324", "mmmmmmmmmme", "mmmmmmmmme4", "mmmmmmmme41", "mmmmmmmmmmg"};
        for (String end : cut) {
            Check.same("ends at 120 with " + end, error(mmm + end), 120);
            Check.same("ends at 119 with " + end, error(mmm.substring(1).replaceFirst("m", "F") + end), 119);
        }
        Check.same("the last one is wrong", error(mmm + "mmmmmmmmmmF"), 119);
        Check.same("the last digit is wrong", error(mmm + "mmms4693241"), 119);
        Subject x = with("F" + "e000".repeat(29) + "mmn");
        Check.same("a full film", x.errorPosition(), NONE);
        Check.same("29 extras of which 14 have room", x.load(), 15);
        Check.same("its last command", x.about(3), 1);
        Check.same("its length", x.clearText(), 120);
    }

    private static void noBlanks() {
        Check.sentence("There are no blanks.");
        String film = "Fe000s0100010g0mn";
        for (int at = 0; at <= film.length(); at++) {
            for (char blank : new char[] {' ', '\t', '\n', '\r', 0, 160}) {
                String text = film.substring(0, at) + blank + film.substring(at);
                Check.same("a blank at " + at, error(text), at);
            }
        }
        for (int at = 0; at < film.length(); at++) {
            char c = film.charAt(at);
            char other = at == 0 ? 'f' : Character.isLetter(c) ? Character.toUpperCase(c) : (char) (c + 128);
            Check.same("another character at " + at, error(film.substring(0, at) + other + film.substring(at + 1)), at);
        }
    }

    private static void errorPositionChangesNothing() {
        Check.sentence("Checks the text.");
        Subject x = rich();
        Check.leaves("of a film", x, NONE, o -> o.errorPosition());
        x.append('e');
        x.append('7');
        Check.leaves("of a wrong text", x, 68, o -> o.errorPosition());
        x.clearText();
        Check.leaves("of no text", x, 0, o -> o.errorPosition());
    }

    // ---- load

    private static void loadAsInANewObject() {
        Check.sentence("Makes everything as in a new object, and then does the commands of the text.");
        String[] films = {"F", "Fe000e001s0200010s0210240", "Fe000e001s0200240s0210240s0120240g0g1ns4693240",
            "Fm", "Fn", "Fg0"};
        for (String film : films) {
            Subject x = rich();
            Subject fresh = with(film);
            x.write(film);
            Check.same("load of " + film, x.load(), fresh.load());
            Check.same("as a new object: " + film, x.looks(), fresh.looks());
        }
        Subject x = rich();
        Check.same("not so before: wages", x.about(4) > 0 ? 1 : 0, 1);
        Check.same("not so before: penalty costs", x.about(5) > 0 ? 1 : 0, 1);
        Check.same("not so before: penalties", x.about(6) > 0 ? 1 : 0, 1);
        Check.same("not so before: breaks", x.about(7) > 0 ? 1 : 0, 1);
        x.write("F");
        x.load();
        for (int what = 0; what <= 8; what++) {
            Check.same("about(" + what + ")", x.about(what), 0);
        }
        Check.same("the day", x.setting(0), 600);
        Check.same("the wage", x.setting(1), 10);
        Check.same("a penalty", x.setting(2), 5);
        Check.same("the first extra", x.extra(1, 1), 0);
        Check.same("the first scene", x.scene(1, 1, 0, 0, 10), 0);
        Check.same("it has not been shot", x.sceneOf(0, 5), 0);
    }

    private static void loadDoesTheCommands() {
        Check.sentence("e, a digit for a look (0 to 4), and two for a face (00 to 13): extra(); s, a digit for a look, "
                + "one for how many (1 to 6), one for a story day, one for a place (0 to 3), and three for minutes "
                + "(010 to 240): scene(); g and a digit for a scene: shoot(); m: meal(); n: nextDay().");
        int[][] extras = {{0, 0}, {4, 13}, {1, 1}, {3, 12}, {2, 9}, {2, 10}, {0, 11}};
        for (int[] e : extras) {
            Subject x = Subject.loaded("Fe" + e[0] + (e[1] < 10 ? "0" : "") + e[1]);
            Check.same("the look", x.extraOf(0, 0), e[0]);
            Check.same("the face", x.extraOf(0, 1), e[1]);
        }
        int[][] scenes = {{0, 1, 0, 0, 10}, {4, 6, 9, 3, 240}, {1, 2, 3, 2, 99}, {2, 3, 4, 1, 100}, {3, 5, 8, 0, 11},
            {1, 4, 7, 3, 199}, {2, 2, 2, 2, 200}, {3, 6, 1, 1, 239}};
        for (int[] s : scenes) {
            String minutes = (s[4] < 100 ? "0" : "") + s[4];
            Subject x = Subject.loaded("Fs" + s[0] + s[1] + s[2] + s[3] + minutes);
            for (int what = 0; what < 5; what++) {
                Check.same("sceneOf(0, " + what + ")", x.sceneOf(0, what), s[what]);
            }
        }
        Subject x = Subject.loaded("Fe000s0100240s0110120s0120030s0130031g0g1");
        Check.same("shot", x.about(2), 2);
        Check.same("minutes", x.extraOf(0, 2), 360);
        Check.same("since the meal", x.extraOf(0, 3), 360);
        x = Subject.loaded("Fe000s0100240s0110120s0120030s0130031g0g1mg2");
        Check.same("m: minutes", x.extraOf(0, 2), 390);
        Check.same("m: since the meal", x.extraOf(0, 3), 30);
        Check.same("m: days", x.about(3), 0);
        x = Subject.loaded("Fe000s0100240s0110120s0120030s0130031g0g1ng3n");
        Check.same("n: minutes", x.extraOf(0, 2), 0);
        Check.same("n: days", x.about(3), 2);
        Check.same("n: scenes", x.extraOf(0, 4), 3);
        String tenScenes = "F" + "s0100010".repeat(9) + "s1100010" + "e100g9";
        Check.same("g9", Subject.loaded(tenScenes).sceneOf(9, 6), 1);
        Check.same("in their order", with("Fg0e000s0100010g0").load(), 1);
    }

    private static void leftOut() {
        Check.sentence("Commands that would throw an exception are left out.");
        String[] films = {"F", "Fg0", "Fg9", "Fg0g1", "Fs0100010g0", "Fe000s0100010g0", "Fe000s0100010g0g0",
            "Fe000s0100010g0g1", "Fe000s0200010g0", "Fe000s0100010s0101010g0g1", "Fe000s0100240s0110240s0120240g0g1g2",
            "Fe000s0100240s0110240s0120120g0g1g2", "Fe000s0100240s0110240s0120121g0g1g2",
            "Fe000s0100240s0110240s0120240g0g1ng2", "Fe000s0100240s0110240s0120240g0g1mg2", "Fmnmn",
            "Fe000g0s0100010g0"};
        int[] due = {0, 1, 1, 2, 1, 0, 1, 1, 1, 1, 1, 0, 1, 0, 1, 0, 1};
        for (int k = 0; k < films.length; k++) {
            Check.same("left out of " + films[k], with(films[k]).load(), due[k]);
        }
        Subject x = with("Fe000s0200010g0e001g0g1n");
        Check.same("left out", x.load(), 2);
        Check.same("what is behind is done", x.about(3), 1);
        Check.same("what is behind is done", x.sceneOf(0, 6), 0b11);
        Check.same("and again", x.load(), 2);
        Subject many = with("F" + "e000".repeat(14) + "g0".repeat(31));
        Check.same("all are left out but the 14 extras", many.load(), 31);
    }

    private static void behindLoad() {
        Check.sentence("Behind it no state is remembered, and both save slots are empty.");
        Subject x = rich();
        Check.same("remembered before", Check.remembered(x), 9);
        x.load();
        Check.refuses("nothing is remembered", x, STATE, o -> o.undo());
        Check.refuses("slot 0 is empty", x, STATE, o -> o.restore(0));
        Check.refuses("slot 1 is empty", x, STATE, o -> o.restore(1));
        x.meal();
        Check.same("one action since", x.undo(), 0);
        Subject full = with("Fmmn");
        for (int k = 0; k < 20; k++) {
            full.nextDay();
        }
        full.save(1);
        full.load();
        Check.same("days", full.about(3), 1);
        Check.refuses("14 are forgotten too", full, STATE, o -> o.undo());
        for (int k = 1; k <= 15; k++) {
            full.nextDay();
            Check.same("remembered anew", Check.remembered(full), Math.min(k, 14));
        }
        Check.refuses("slot 1 is empty", full, STATE, o -> o.restore(1));
        full.save(1);
        Check.refuses("slot 0 is empty still", full, STATE, o -> o.restore(0));
        Check.same("slot 1 is not", full.restore(1), 0);
    }

    private static void loadIsNoAction() {
        Check.sentence("load and restore are not actions.");
        Subject x = with("Fn");
        x.load();
        Check.same("remembered", Check.remembered(x), 0);
        x.nextDay();
        x.load();
        Check.same("remembered", Check.remembered(x), 0);
        Check.refuses("load cannot be taken back", x, STATE, o -> o.undo());
    }

    private static void loadKeepsTheText() {
        Check.sentence("Keeps the text.");
        for (String film : new String[] {"F", "Fm", "Fe413s4693240g0", "F" + "n".repeat(119)}) {
            Subject x = with(film);
            int out = x.load();
            Check.same("load again", x.load(), out);
            Check.same("its length", x.clearText(), film.length());
        }
        Subject x = with("Fn");
        x.load();
        x.append('n');
        Check.same("more of it", x.load(), 0);
        Check.same("two days", x.about(3), 2);
    }

    private static void loadRefused() {
        Check.sentence("Throws IllegalStateException if the text is not a film");
        String[] wrong = {"", "f", "e000", "Ff", "Fe", "Fe0", "Fe00", "Fe014", "Fe500", "Fs", "Fs0100009", "Fs0100241",
            "Fs010001", "Fs0100", "Fg", "Fm ", "mF", "Fe000x", "Fe000s0700010"};
        for (String text : wrong) {
            Subject x = rich();
            x.write(text);
            Check.refuses("load of " + text, x, STATE, o -> o.load());
        }
    }
}
