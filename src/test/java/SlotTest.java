/** Promises 25 and 26, the save slots: each sentence at its bounds. */
public final class SlotTest {
    private static final Class<IllegalStateException> STATE = Check.STATE;
    private static final Class<IndexOutOfBoundsException> INDEX = Check.INDEX;
    private static final int NONE = CrowdFaces.NONE;

    private SlotTest() {
    }

    public static void main(String[] args) {
        slotZeroOrOne();
        saveReturns();
        presentState();
        savedAgain();
        saveIsNoAction();
        nothingSaved();
        nothingSavedSinceLoad();
        refusedRestore();
        restoreReturns();
        restoreForgets();
        restoreIsNoAction();
        slotKeepsIt();
        restoreLeavesTheText();
        slotsByThemselves();
        Check.finish();
    }

    /** Two scenes that can be shot, penalties included, and one that cannot. */
    private static Subject film() {
        return Subject.loaded("Fe000e001s0200240s0200150s1100010");
    }

    private static void slotZeroOrOne() {
        Check.sentence("a save slot is not 0 or 1");
        Subject empty = film();
        Subject filled = film();
        filled.save(0);
        filled.save(1);
        filled.shoot(0);
        for (Subject x : new Subject[] {empty, filled}) {
            Check.range("save", x, INDEX, 0, 1, v -> o -> o.save(v));
            for (int slot : new int[] {-1, 2, 3, 256, 257, -2, Integer.MIN_VALUE, Integer.MAX_VALUE}) {
                Check.refuses("save(" + slot + ")", x, INDEX, o -> o.save(slot));
                Check.refuses("restore(" + slot + ")", x, INDEX, o -> o.restore(slot));
            }
        }
        Check.range("restore", filled, INDEX, 0, 1, v -> o -> o.restore(v));
    }

    private static void saveReturns() {
        Check.sentence("Stores the present state in a save slot. Returns the scenes that have been shot.");
        Subject x = new Subject();
        Check.same("a new film", x.save(0), 0);
        Check.same("a new film", x.save(1), 0);
        x = Subject.loaded("Fe000" + "s0100010".repeat(10));
        for (int shot = 0; shot <= 10; shot++) {
            Check.same("save behind " + shot, x.save(shot % 2), shot);
            if (shot < 10) {
                x.shoot(9 - shot);
            }
        }
    }

    private static void presentState() {
        Check.sentence("Stores the present state in a save slot.");
        for (int slot = 0; slot < 2; slot++) {
            Subject x = TextTest.rich();
            String state = Looks.of(x);
            x.save(slot);
            Check.same("save leaves the state", Looks.of(x), state);
            x.extra(1, 1);
            x.scene(2, 2, 2, 2, 20);
            x.replace(1, 1, x.extra(0, 7));
            x.nextDay();
            x.meal();
            x.set(0, 240);
            x.set(1, 1);
            x.set(2, 1);
            Check.same("another state", Looks.of(x).equals(state) ? 1 : 0, 0);
            Check.same("restore", x.restore(slot), 4);
            Check.same("as it was saved", Looks.of(x), state);
        }
        Subject fresh = new Subject();
        String state = Looks.of(fresh);
        fresh.save(0);
        fresh.extra(0, 0);
        fresh.scene(0, 1, 0, 0, 10);
        fresh.shoot(0);
        fresh.restore(0);
        Check.same("a new film again", Looks.of(fresh), state);
        Check.same("its first extra", fresh.extra(3, 3), 0);
        Check.same("has no minutes", fresh.extraOf(0, 2), 0);
        Check.same("its first scene", fresh.scene(3, 1, 0, 0, 10), 0);
        Check.same("has not been shot", fresh.sceneOf(0, 5), 0);
    }

    private static void savedAgain() {
        Check.sentence("Stores the present state in a save slot.");
        Subject x = film();
        x.save(0);
        x.shoot(0);
        x.save(0);
        x.shoot(1);
        Check.same("the later state", x.restore(0), 1);
        Check.same("crowd", x.sceneOf(0, 6), 0b11);
        Check.same("penalties", x.about(6), 0);
        x.nextDay();
        x.save(0);
        x.undo();
        Check.same("undone since", x.about(3), 0);
        Check.same("the latest state", x.restore(0), 1);
        Check.same("days", x.about(3), 1);
    }

    private static void saveIsNoAction() {
        Check.sentence("The methods in the section \"actions\" change the state");
        Subject x = film();
        x.shoot(0);
        x.nextDay();
        Check.same("remembered", Check.remembered(x, o -> o.save(0)), 2);
        x.save(0);
        x.save(1);
        Check.same("undo", x.undo(), 1);
        Check.same("days", x.about(3), 0);
        Check.same("undo", x.undo(), 0);
        Check.same("shot", x.about(2), 0);
        Check.refuses("no more", x, STATE, o -> o.undo());
        Check.same("undo takes nothing out of a slot", x.restore(0), 1);
        Check.same("days", x.about(3), 1);
        Check.same("nor out of the other", x.restore(1), 1);
    }

    private static void nothingSaved() {
        Check.sentence("Throws IllegalStateException if nothing has been saved in it since the last load");
        Subject x = new Subject();
        Check.refuses("slot 0 of a new film", x, STATE, o -> o.restore(0));
        Check.refuses("slot 1 of a new film", x, STATE, o -> o.restore(1));
        x.save(0);
        Check.refuses("slot 1", x, STATE, o -> o.restore(1));
        Check.same("slot 0", x.restore(0), 0);
        Check.refuses("slot 1 still", x, STATE, o -> o.restore(1));
        Subject y = new Subject();
        y.save(1);
        Check.refuses("slot 0", y, STATE, o -> o.restore(0));
        Check.same("slot 1", y.restore(1), 0);
    }

    private static void nothingSavedSinceLoad() {
        Check.sentence("if nothing has been saved in it since the last load");
        Subject x = film();
        Check.refuses("slot 0 behind load", x, STATE, o -> o.restore(0));
        x.save(0);
        x.save(1);
        x.load();
        Check.refuses("slot 0 behind another load", x, STATE, o -> o.restore(0));
        Check.refuses("slot 1 behind another load", x, STATE, o -> o.restore(1));
        x.save(1);
        Check.refuses("slot 0 behind a save in slot 1", x, STATE, o -> o.restore(0));
        Check.same("slot 1", x.restore(1), 0);
        x.append('e');
        Check.refuses("a load that is refused", x, STATE, o -> o.load());
        Check.same("which empties no slot", x.restore(1), 0);
        x.clearText();
        Check.same("nor does clearText", x.restore(1), 0);
    }

    private static void refusedRestore() {
        Check.sentence("A call that throws an exception changes nothing.");
        Subject x = film();
        x.shoot(0);
        x.meal();
        Check.refuses("restore of nothing", x, STATE, o -> o.restore(0));
        Check.same("still remembered", x.undo(), 1);
        x.save(1);
        Check.refuses("restore of nothing", x, STATE, o -> o.restore(0));
        Check.refuses("restore of no slot", x, INDEX, o -> o.restore(2));
        Check.same("still remembered", x.undo(), 0);
    }

    private static void restoreReturns() {
        Check.sentence("Returns the scenes that have been shot then.");
        Subject x = Subject.loaded("Fe000" + "s0100010".repeat(10));
        x.save(0);
        for (int s = 0; s < 10; s++) {
            x.shoot(s);
            x.save(1);
            Check.same("of the slot, not of now", x.restore(0), 0);
            Check.same("about", x.about(2), 0);
            Check.same("of the slot, not of now", x.restore(1), s + 1);
            Check.same("about", x.about(2), s + 1);
        }
    }

    private static void restoreForgets() {
        Check.sentence("Replaces the state by the one in a save slot, and forgets all remembered states.");
        for (int actions : new int[] {0, 1, 13, 14, 15, 20}) {
            Subject x = film();
            x.shoot(0);
            x.save(0);
            for (int k = 0; k < actions; k++) {
                x.nextDay();
            }
            Check.same("restore", x.restore(0), 1);
            Check.same("days", x.about(3), 0);
            Check.refuses("nothing is remembered behind " + actions, x, STATE, o -> o.undo());
            for (int k = 1; k <= 15; k++) {
                x.set(1, 20 + k);
                Check.same("remembered anew", Check.remembered(x), Math.min(k, 14));
            }
            Check.same("undo", x.undo(), 13);
            Check.same("the wage", x.setting(1), 34);
        }
    }

    private static void restoreIsNoAction() {
        Check.sentence("load and restore are not actions.");
        Subject x = film();
        x.save(0);
        x.nextDay();
        x.restore(0);
        Check.refuses("restore cannot be taken back", x, STATE, o -> o.undo());
        x.restore(0);
        Check.refuses("twice", x, STATE, o -> o.undo());
        x.meal();
        x.nextDay();
        Check.same("undo up to it", x.undo(), 1);
        Check.same("undo up to it", x.undo(), 0);
        Check.refuses("and no further", x, STATE, o -> o.undo());
    }

    private static void slotKeepsIt() {
        Check.sentence("The save slot keeps it.");
        Subject x = film();
        x.shoot(0);
        x.save(0);
        String state = Looks.of(x);
        for (int k = 0; k < 3; k++) {
            x.shoot(1);
            x.replace(0, 0, x.extra(0, 9));
            x.nextDay();
            x.set(0, 300 + k);
            x.scene(1, 1, 1, 1, 100);
            x.undo();
            Check.same("restore", x.restore(0), 1);
            Check.same("as it was", Looks.of(x), state);
        }
        x.restore(0);
        Check.same("twice", x.restore(0), 1);
        Check.same("as it was", Looks.of(x), state);
    }

    private static void restoreLeavesTheText() {
        Check.sentence("the state, which consists of everything but the text and the save slots");
        Subject x = film();
        x.save(0);
        x.clearText();
        x.append('F');
        x.append('n');
        x.restore(0);
        Check.same("the text stays", x.errorPosition(), NONE);
        Check.same("its length", x.clearText(), 2);
        x.restore(0);
        Check.same("an empty one too", x.clearText(), 0);
    }

    private static void slotsByThemselves() {
        Check.sentence("Stores the present state in a save slot.");
        Subject x = film();
        x.save(0);
        x.shoot(0);
        x.save(1);
        x.shoot(1);
        Check.same("slot 1", x.restore(1), 1);
        Check.same("slot 0", x.restore(0), 0);
        Check.same("slot 1 again", x.restore(1), 1);
        x.save(0);
        x.shoot(1);
        x.save(1);
        Check.same("slot 0 has what slot 1 had", x.restore(0), 1);
        Check.same("and slot 1 something else", x.restore(1), 2);
        Check.same("crowd", x.sceneOf(1, 6), 0b11);
        Check.same("penalties", x.about(6), 2);
    }
}
