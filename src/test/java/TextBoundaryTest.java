import java.util.function.Supplier;

/** Promises 25 to 27 at their boundaries: typing, emptying and running the action text. */
public final class TextBoundaryTest {
    private static final Class<IllegalArgumentException> ARGUMENT = Check.ARGUMENT;
    private static final Class<IllegalStateException> STATE = Check.STATE;
    private static final int FINE = -1;
    // What can stand where an action begins, but for the digits.
    private static final String SINGLE = "nesw.lxt";
    private static final String DOUBLE = "oc";
    private static final String DIRECTIONS = "nesw";

    private static EchoDungeon typed(String text) {
        EchoDungeon x = new EchoDungeon();
        Twins.type(x, text);
        return x;
    }

    /** The fault of a text, tried where no action can be done, so that a fine text makes 0 turns. */
    private static void fault(String text, int due) {
        EchoDungeon x = typed(text);
        x.placeHero(0, 0, 0, 0);
        Check.same(shown(text), x.runActions(), due == FINE ? 0 : -10 - due);
        Check.same("the length of " + shown(text), x.whole(13), text.length());
    }

    /** The text with the numbers of those bytes that no terminal shows. */
    private static String shown(String text) {
        StringBuilder shown = new StringBuilder();
        for (char letter : text.toCharArray()) {
            shown.append(letter > ' ' && letter < 127 ? "" + letter : "<" + (int) letter + ">");
        }
        return shown.toString();
    }

    private static boolean isDigit(char letter) {
        return letter >= '0' && letter <= '9';
    }

    private static boolean isOneOf(String letters, char letter) {
        return letters.indexOf(letter) >= 0;
    }

    // ---- promise 25, type

    private static void promise25RefusesOtherBytesThanZeroToHundredTwentySeven() {
        for (int value : new int[] {-1, 128, 255, 256, -128, Integer.MIN_VALUE, Integer.MAX_VALUE}) {
            Twins.refused("type(" + value + ")", ARGUMENT, Twins::busy, x -> x.type(value));
            Twins.refused("type(" + value + ") into a full text", ARGUMENT, Twins::full, x -> x.type(value));
        }
    }

    private static void promise25TakesAllBytes() {
        EchoDungeon x = new EchoDungeon();
        for (int value = 0; value <= 127; value++) {
            if (value == 120) {
                x.clearActions();
            }
            Check.same("type(" + value + ")", x.type(value), value % 120 + 1);
        }
    }

    private static void promise25TakesHundredTwentyBytes() {
        EchoDungeon x = new EchoDungeon();
        for (int length = 1; length <= 120; length++) {
            Check.same("type('t')", x.type('t'), length);
            Check.same("length", x.whole(13), length);
        }
        Check.fails("a byte more", STATE, () -> x.type('t'));
        Check.same("the length stays", x.whole(13), 120);
        Check.same("it can be run", x.runActions(), 120);
        for (int value : new int[] {0, '.', 127}) {
            Twins.refused("type(" + value + ") into a full text", STATE, Twins::full, y -> y.type(value));
        }
    }

    private static void promise25AppendsAtTheEnd() {
        EchoDungeon x = typed("e");
        x.type('s');
        Check.same("two actions", x.runActions(), 2);
        Check.same("the column", x.whole(6), 1);
        Check.same("the row", x.whole(7), 1);
        Check.same("the last of them first is another way", typed("2ss").runActions(), 3);
    }

    private static void promise25IsNotUndoable() {
        EchoDungeon x = typed("nesw");
        Check.fails("undo()", STATE, x::undo);
        x.act(12);
        x.type('.');
        Check.same("one state of act()", x.undo(), 0);
        Check.same("the text stays", x.whole(13), 5);
    }

    // ---- promise 26, clearActions

    private static void promise26ReturnsTheLengthThatItHad() {
        for (int length = 0; length <= 120; length++) {
            EchoDungeon x = typed(".".repeat(length));
            Check.same("clearActions()", x.clearActions(), length);
            Check.same("the length then", x.whole(13), 0);
            Check.same("clearActions() again", x.clearActions(), 0);
        }
    }

    private static void promise26MakesRoomForHundredTwentyBytes() {
        EchoDungeon x = Twins.full();
        x.clearActions();
        for (int length = 1; length <= 120; length++) {
            Check.same("type('.')", x.type('.'), length);
        }
        Check.fails("a byte more", STATE, () -> x.type('.'));
    }

    private static void promise26LeavesNothingOfTheText() {
        EchoDungeon x = typed("12s");
        x.clearActions();
        Check.same("an empty text", x.runActions(), 0);
        Twins.type(x, "1");
        Check.same("a digit alone", x.runActions(), -11);
        x.clearActions();
        Check.same("the hero stays", x.whole(7), 0);
    }

    private static void promise26LeavesAllElse() {
        Supplier<EchoDungeon> maker = () -> {
            EchoDungeon x = Twins.busy();
            x.clearActions();
            return x;
        };
        Twins.onlyAsked("clearActions() of an empty text", maker, EchoDungeon::clearActions);
        EchoDungeon x = maker.get();
        Twins.type(x, "2s.e");
        Twins.alike("typed again", x, Twins.busy());
    }

    // ---- promise 27, runActions: faults

    private static void promise27FaultsAtTheStartOfAnAction() {
        for (String before : new String[] {"", "n", "3.", "oe", "20cw", "."}) {
            int at = before.length();
            for (char letter = 0; letter <= 127; letter++) {
                int due = at;
                if (isOneOf(SINGLE, letter)) {
                    due = FINE;
                } else if (isOneOf(DOUBLE, letter) || isDigit(letter) && letter != '0') {
                    due = at + 1;
                }
                fault(before + letter, due);
            }
        }
    }

    private static void promise27FaultsAfterOneDigit() {
        for (char digit = '0'; digit <= '9'; digit++) {
            for (char letter = 0; letter <= 127; letter++) {
                int due = 1;
                if (isDigit(letter)) {
                    int number = (digit - '0') * 10 + letter - '0';
                    due = number == 0 || number > 20 ? 0 : 2;
                } else if (digit == '0') {
                    due = 0;
                } else if (isOneOf(SINGLE, letter)) {
                    due = FINE;
                } else if (isOneOf(DOUBLE, letter)) {
                    due = 2;
                }
                fault("" + digit + letter, due);
            }
        }
    }

    private static void promise27FaultsAfterTwoDigits() {
        for (int number = 0; number <= 99; number++) {
            String digits = "" + number / 10 + number % 10;
            boolean isWrong = number == 0 || number > 20;
            fault(digits, isWrong ? 0 : 2);
            for (char letter : "nesw.lxt".toCharArray()) {
                fault(digits + letter, isWrong ? 0 : FINE);
            }
            fault(digits + "o", isWrong ? 0 : 3);
            fault(digits + "c", isWrong ? 0 : 3);
            fault(digits + "oe", isWrong ? 0 : FINE);
            fault(digits + "cz", isWrong ? 0 : 3);
            fault(digits + " ", isWrong ? 0 : 2);
            fault(digits + "z", isWrong ? 0 : 2);
        }
    }

    private static void promise27FaultsWithAThirdDigit() {
        for (String number : new String[] {"01", "20", "12", "00", "21", "99"}) {
            for (char digit = '0'; digit <= '9'; digit++) {
                fault(number + digit, 2);
                fault(number + digit + "n", 2);
                fault("n" + number + digit, 3);
            }
        }
    }

    private static void promise27FaultsAfterOpenAndClose() {
        for (String before : new String[] {"o", "c", "2o", "20c", "noncnc"}) {
            int at = before.length();
            for (char letter = 0; letter <= 127; letter++) {
                fault(before + letter, isOneOf(DIRECTIONS, letter) ? FINE : at);
            }
            fault(before, at);
        }
    }

    private static void promise27TheFirstFaultCounts() {
        fault("z0", 0);
        fault("0z", 0);
        fault("00z", 0);
        fault("nz21", 1);
        fault("n21z", 1);
        fault("n2zo", 2);
        fault("nnoz0", 3);
    }

    private static void promise27FaultsAtTheEndOfTheLongestText() {
        String actions = "n".repeat(118);
        fault(actions, FINE);
        fault(actions + "nn", FINE);
        fault(actions + "oe", FINE);
        fault(actions + "no", 120);
        fault(actions + "20", 120);
        fault(actions + "n9", 120);
        fault(actions + "21", 118);
        fault(actions + "n0", 119);
        fault(actions + "nz", 119);
        fault(actions + "oz", 119);
        fault("z" + actions + "n", 0);
    }

    private static void promise27DoesNothingWithAFault() {
        for (String text : new String[] {"z", "ez", "2e.0n", "e3", "ooe", "e21n"}) {
            Supplier<EchoDungeon> maker = () -> {
                EchoDungeon x = Twins.busy();
                x.clearActions();
                Twins.type(x, text);
                return x;
            };
            Twins.onlyAsked("\"" + text + "\"", maker, EchoDungeon::runActions);
        }
    }

    // ---- promise 27: what a run does

    private static void promise27EachLetterIsItsAction() {
        String[] texts = {"n", "e", "s", "w", "on", "oe", "os", "ow", "cn", "ce", "cs", "cw", ".", "l", "x", "t"};
        for (int action = 0; action < 16; action++) {
            EchoDungeon x = readyFor(action);
            EchoDungeon twin = readyFor(action);
            Twins.type(x, texts[action]);
            Check.same(texts[action] + " turns", x.runActions(), 1);
            x.clearActions();
            twin.act(action);
            Twins.alike(texts[action], x, twin);
        }
    }

    /** The hero in the middle, a door on each side, and able to do this action. */
    private static EchoDungeon readyFor(int action) {
        EchoDungeon x = new EchoDungeon();
        x.addMonster(4, 3, 1, 1);
        x.placeHero(2, 2, 5, 20);
        int[][] doors = {{2, 1, 2}, {2, 2, 1}, {2, 2, 2}, {1, 2, 1}};
        for (int[] a : doors) {
            x.setDoor(x.addDoor(a[0], a[1], a[2], 5, 6), action >= 4 && action < 8 ? 0 : 1);
        }
        if (action == 14) {
            x.act(13);
        }
        return x;
    }

    private static void promise27DoesAnActionAsOftenAsItsNumberTells() {
        Check.same("without a number", typed(".").runActions(), 1);
        for (int number = 1; number <= 20; number++) {
            Check.same("number " + number, typed(number + ".").runActions(), number);
            if (number < 10) {
                Check.same("number 0" + number, typed("0" + number + ".").runActions(), number);
            }
        }
        Check.same("several", typed("2.t03.20t").runActions(), 26);
    }

    private static void promise27EndsWithTheFirstThatCannotBeDone() {
        for (int times = 3; times <= 5; times++) {
            EchoDungeon x = typed(times + "e2s");
            Check.same(times + " steps of 4", x.runActions(), times <= 4 ? times + 2 : 4);
            Check.same("the column", x.whole(6), Math.min(times, 4));
            Check.same("the row", x.whole(7), times <= 4 ? 2 : 0);
            Check.same("the turns", x.whole(11), times <= 4 ? times + 2 : 4);
            Check.same("one state is saved", x.undo(), 0);
            Check.same("the column of before", x.whole(6), 0);
        }
        EchoDungeon later = typed("9w");
        later.placeHero(2, 0, 5, 0);
        later.act(12);
        Check.same("turns before do not count", later.runActions(), 2);
        EchoDungeon x = typed("xe");
        Check.same("the first one", x.runActions(), 0);
        Check.same("nothing was done", x.whole(6), 0);
        Check.same("but a state was saved", x.undo(), 0);
    }

    private static void promise27EndsWithTheLastLife() {
        for (int life = 0; life <= 9; life++) {
            EchoDungeon x = typed("20.");
            x.addMonster(0, 0, 9, 0);
            x.placeHero(0, 0, life, 0);
            Check.same("life " + life, x.runActions(), life);
            Check.same("no life", x.whole(8), 0);
        }
    }

    private static void promise27AnEmptyTextMakesNoTurnAndSavesAState() {
        EchoDungeon x = new EchoDungeon();
        Check.same("runActions()", x.runActions(), 0);
        Check.same("undo()", x.undo(), 0);
        Twins.alike("undone", x, new EchoDungeon());
    }

    private static void promise27ARunSavesOneStateOfBefore() {
        EchoDungeon x = Twins.full();
        x.placeHero(0, 0, 9, 0);
        x.clearActions();
        Twins.type(x, "s2.n");
        x.runActions();
        x.undo();
        EchoDungeon twin = Twins.full();
        twin.placeHero(0, 0, 9, 0);
        twin.clearActions();
        Twins.type(twin, "s2.n");
        twin.setTrap(1, 5);
        twin.undo();
        Twins.alike("one state less", x, twin);
    }

    private static void promise27TheTextStaysAndCanBeRunAgain() {
        EchoDungeon x = typed("ew");
        for (int n = 1; n <= 3; n++) {
            Check.same("run " + n, x.runActions(), 2);
            Check.same("turns " + n, x.whole(11), 2 * n);
            Check.same("length " + n, x.whole(13), 2);
        }
        x.undo();
        Check.same("turns of before", x.whole(11), 4);
        Check.same("the length stays", x.whole(13), 2);
    }

    private static void promise27TheLongestRun() {
        EchoDungeon x = typed("20.".repeat(40));
        x.addTorch(4, 3, 99);
        Check.same("runActions()", x.runActions(), 800);
        Check.same("turns", x.whole(11), 800);
        Check.same("again", x.runActions(), 800);
        Check.same("turns then", x.whole(11), 1600);
        Check.same("a torch", x.torch(0, 2), 0);
    }

    public static void main(String[] args) {
        Check.promises(25, 27, TextBoundaryTest.class);
    }
}
