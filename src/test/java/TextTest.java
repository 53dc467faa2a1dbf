/** Promises 25 to 27: typing, emptying and running the action text. */
public final class TextTest {
    private static final Class<IllegalArgumentException> ARGUMENT = Check.ARGUMENT;
    private static final Class<IllegalStateException> STATE = Check.STATE;
    private static final int FINE = -1;

    private static void type(EchoDungeon x, String text) {
        for (int i = 0; i < text.length(); i++) {
            x.type(text.charAt(i));
        }
    }

    /** The answer for a text, in a dungeon where nothing stands in the hero's way. */
    private static int run(EchoDungeon x, String text) {
        x.clearActions();
        type(x, text);
        return x.runActions();
    }

    private static void fault(String text, int due) {
        EchoDungeon x = new EchoDungeon();
        x.placeHero(0, 0, 0, 0);
        long before = x.digest();
        Check.same("\"" + text + "\"", run(x, text), due == FINE ? 0 : -10 - due);
        x.clearActions();
        if (due != FINE) {
            Check.same("\"" + text + "\" changes nothing", x.digest(), before);
        }
        Check.same("\"" + text + "\" saves a state or none", x.undo(), due == FINE ? 1 : 0);
    }

    private static void promise25Type() {
        EchoDungeon x = new EchoDungeon();
        Check.same("type(0)", x.type(0), 1);
        Check.same("type(127)", x.type(127), 2);
        Check.same("the length", x.whole(13), 2);
        for (int wrong : new int[] {-1, 128, Integer.MIN_VALUE, Integer.MAX_VALUE}) {
            Check.fails("type(" + wrong + ")", ARGUMENT, () -> x.type(wrong));
        }
        Check.same("the length then", x.whole(13), 2);
        for (int length = 3; length <= 120; length++) {
            Check.same("type('.')", x.type('.'), length);
        }
        Check.fails("a byte too many", STATE, () -> x.type('.'));
        Check.fails("a wrong byte too many", ARGUMENT, () -> x.type(128));
        Check.same("the length of a full text", x.whole(13), 120);
        Check.fails("typing is not undoable", STATE, x::undo);
    }

    private static void promise26ClearActions() {
        EchoDungeon x = new EchoDungeon();
        type(x, "nesw");
        Check.same("clearActions()", x.clearActions(), 4);
        Check.same("clearActions() again", x.clearActions(), 0);
        Check.same("the length", x.whole(13), 0);
        Check.fails("emptying is not undoable", STATE, x::undo);
        type(x, ".");
        Check.same("nothing of the old text is left", x.runActions(), 1);
        x.clearActions();
        type(x, "2oe");
        x.clearActions();
        type(x, "2o");
        Check.same("behind the end there is nothing", x.runActions(), -12);
    }

    private static void faults() {
        String[] fine = {"", "n", "e", "s", "w", ".", "l", "x", "t", "on", "oe", "os", "ow", "cn", "ce", "cs", "cw",
            "1n", "20n", "01n", "09.", "2oe", "20cw", "10l", "nesw.lxtonce", "3.3.3."};
        for (String text : fine) {
            fault(text, FINE);
        }
        String[] atStart = {"z", " n", "N", "0n", "00n", "21n", "99n", "0", "00", "21", "0z", "30o", "-", "0on",
            "\u0000", "\u007f", "/", ":"};
        for (String text : atStart) {
            fault(text, 0);
        }
        String[] second = {"1", "9", "o", "c", "oo", "oz", "o1n", "ol", "o.", "c ", "n0n", "n0", "n21", "e e", "nz",
            "1z", "1 n", "5\u007f", ".0."};
        for (String text : second) {
            fault(text, 1);
        }
        String[] third = {"12", "20", "01", "123", "000", "999n", "2o", "2oz", "2o2", "n1", "no", "20z", "n1z",
            "oez", "1n0"};
        for (String text : third) {
            fault(text, 2);
        }
        fault("oeo", 3);
        fault("n12", 3);
        fault("n123n", 3);
        fault("12o", 3);
        fault("12.00.", 3);
        fault("12.12.21", 6);
    }

    private static void promise27RunActions() {
        EchoDungeon x = new EchoDungeon();
        Check.same("2es3.w", run(x, "2es3.w"), 7);
        Check.same("column", x.whole(6), 1);
        Check.same("row", x.whole(7), 1);
        Check.same("turns", x.whole(11), 7);
        Check.same("the text stays", x.whole(13), 6);
        Check.same("one state was saved", x.undo(), 0);
        Check.same("the turns of before", x.whole(11), 0);
        Check.same("the column of before", x.whole(6), 0);
        Check.same("undo() leaves the text", x.whole(13), 6);
        Check.same("once more", x.runActions(), 7);
        Check.same("an empty text", run(x, ""), 0);
        Check.same("saves a state, too", x.undo(), 1);
        Check.same("stops at the edge", run(x, "20es"), 3);
        Check.same("what was done stays", x.whole(6), 4);
        Check.same("what follows is not done", x.whole(7), 1);
        Check.same("stops within a number", run(x, "3w20ln"), 4);
        Check.same("lit once", x.whole(9), 19);
        Check.same("puts it out", run(x, "2x"), 1);
        Check.same("19 steps there and back", run(x, "ewewewewewewewewewe"), 19);
        Check.same("20 stones", run(x, "20t"), 20);
    }

    private static void doorsInTexts() {
        EchoDungeon x = new EchoDungeon();
        x.placeHero(2, 2, 9, 0);
        x.addDoor(2, 1, 2, 0, 0);
        x.addDoor(2, 2, 1, 0, 0);
        x.addDoor(2, 2, 2, 0, 0);
        x.addDoor(1, 2, 1, 0, 0);
        Check.same("opens all", run(x, "onoeosow"), 4);
        for (int door = 0; door < 4; door++) {
            Check.same("open " + door, x.door(door, 0), 1);
        }
        Check.same("closes two", run(x, "cecwce"), 2);
        int[] due = {1, 0, 1, 0};
        for (int door = 0; door < 4; door++) {
            Check.same("after closing two: " + door, x.door(door, 0), due[door]);
        }
        Check.same("closes the others", run(x, "cncs"), 2);
        Check.same("closed to the north", x.door(0, 0), 0);
        Check.same("closed to the south", x.door(2, 0), 0);
        Check.same("opens once, not twice", run(x, "2on"), 1);
        Check.same("goes through and back", run(x, "ns"), 2);
        Check.same("passed twice", x.door(0, 4), 2);
    }

    private static void runsEndWithLife() {
        EchoDungeon x = new EchoDungeon();
        x.begin(2, 1);
        x.addMonster(0, 0, 9, 0);
        Check.same("five turns with a monster", run(x, "20."), 5);
        Check.same("life", x.whole(8), 0);
        Check.same("no turn without life", x.runActions(), 0);
    }

    private static void theLongestText() {
        EchoDungeon x = new EchoDungeon();
        StringBuilder text = new StringBuilder();
        for (int n = 0; n < 40; n++) {
            text.append("20.");
        }
        Check.same("the longest run", run(x, text.toString()), 800);
        Check.same("turns", x.whole(11), 800);
        text.setCharAt(119, 'o');
        Check.same("its fault is its length", run(x, text.toString()), -130);
        text.setCharAt(119, '1');
        Check.same("or its last byte", run(x, text.toString()), -129);
        Check.same("nothing was done", x.whole(11), 800);
        x.clearActions();
        for (int n = 0; n < 120; n++) {
            x.type('.');
        }
        Check.same("120 actions", x.runActions(), 120);
    }

    public static void main(String[] args) {
        promise25Type();
        promise26ClearActions();
        faults();
        promise27RunActions();
        doorsInTexts();
        runsEndWithLife();
        theLongestText();
        Check.finish();
    }
}
