import java.math.BigInteger;
import java.util.ArrayList;
import java.util.Arrays;
import java.util.List;
import java.util.function.Consumer;
import java.util.function.Supplier;

/** Promises 28 and 29 at their boundaries: undo and digest. */
public final class UndoBoundaryTest {
    private static final Class<IllegalStateException> STATE = Check.STATE;
    private static final int WAIT = 12;

    private static EchoDungeon dungeon(int columns, int rows) {
        EchoDungeon x = new EchoDungeon();
        x.begin(columns, rows);
        return x;
    }

    // ---- promise 28, undo

    private static void promise28RefusesAnEmptyStack() {
        Twins.refused("undo() of a new object", STATE, EchoDungeon::new, EchoDungeon::undo);
        Supplier<EchoDungeon> emptied = () -> {
            EchoDungeon x = Twins.full();
            for (int n = 0; n < 4; n++) {
                x.undo();
            }
            return x;
        };
        Twins.refused("undo() of an emptied stack", STATE, emptied, EchoDungeon::undo);
    }

    private static void promise28KeepsTheLatestFourStates() {
        for (int calls = 0; calls <= 12; calls++) {
            EchoDungeon x = new EchoDungeon();
            for (int n = 0; n < calls; n++) {
                x.act(WAIT);
            }
            int kept = Math.min(calls, 4);
            for (int left = kept - 1; left >= 0; left--) {
                Check.same("left of " + calls, x.undo(), left);
                Check.same("turns of " + calls + " with " + left, x.whole(11), calls - kept + left);
            }
            Check.fails("no more of " + calls, STATE, x::undo);
        }
    }

    private static void promise28TurnsRoundBetweenSavingAndUndoing() {
        EchoDungeon x = new EchoDungeon();
        for (int saved = 1; saved <= 4; saved++) {
            for (int round = 0; round < 5; round++) {
                int before = x.whole(11);
                for (int n = 0; n < 4; n++) {
                    x.act(WAIT);
                }
                for (int n = 1; n <= saved; n++) {
                    Check.same("left", x.undo(), 4 - n);
                    Check.same("turns", x.whole(11), before + 4 - n);
                }
            }
        }
    }

    /** The call must save one state, the one from before it. */
    private static void saves(String what, Consumer<EchoDungeon> call) {
        Supplier<EchoDungeon> maker = () -> {
            EchoDungeon x = Twins.busy();
            x.undo();
            return x;
        };
        EchoDungeon x = maker.get();
        call.accept(x);
        Check.same(what + ": undo()", x.undo(), 3);
        Twins.alike(what + " undone:", x, maker.get());
        EchoDungeon full = Twins.busy();
        call.accept(full);
        Check.same(what + " with four states: undo()", full.undo(), 3);
        EchoDungeon three = Twins.busy();
        three.setWall(5, 2, 2, false);
        three.undo();
        Twins.alike(what + " with four states undone:", full, three);
    }

    private static void promise28UndoesEachUndoableCall() {
        saves("begin", x -> x.begin(2, 2));
        saves("setWall", x -> x.setWall(4, 2, 1, true));
        saves("addDoor", x -> x.addDoor(4, 2, 2, 1, 1));
        saves("setDoor", x -> x.setDoor(0, 2));
        saves("addTorch", x -> x.addTorch(4, 2, 9));
        saves("addMonster", x -> x.addMonster(4, 2, 1, 1));
        saves("setTrap", x -> x.setTrap(4, 2));
        saves("setTrap of one that was sprung", x -> x.setTrap(1, 0));
        saves("placeHero", x -> x.placeHero(4, 2, 1, 0));
        saves("act", x -> x.act(WAIT));
        saves("runActions", EchoDungeon::runActions);
        saves("runActions without a text", x -> {
            x.clearActions();
            x.runActions();
            Twins.type(x, "2s.e");
        });
    }

    private static void promise28UndoesCallsThatChangeNothing() {
        saves("setWall of a wall", x -> x.setWall(2, 2, 1, true));
        saves("setWall of a free border", x -> x.setWall(4, 2, 1, false));
        saves("setDoor to its state", x -> x.setDoor(1, 0));
        saves("setTrap of one that is set twice", x -> x.setTrap(3, 3));
        saves("placeHero where it is", x -> x.placeHero(x.whole(6), x.whole(7), x.whole(8), x.whole(9)));
    }

    private static void promise28RestoresAllOfTheLargestDungeon() {
        EchoDungeon x = Twins.full();
        EchoDungeon twin = Twins.full();
        twin.setTrap(1, 5);
        twin.undo();
        x.begin(1, 1);
        x.undo();
        Twins.alike("full", x, twin);
    }

    private static void promise28LeavesTheText() {
        EchoDungeon x = new EchoDungeon();
        x.act(WAIT);
        Twins.type(x, "e".repeat(120));
        Check.same("undo()", x.undo(), 0);
        Check.same("the length", x.whole(13), 120);
        Check.same("the text", x.runActions(), 4);
        x.clearActions();
        x.undo();
        Check.same("the length then", x.whole(13), 0);
        Check.same("the hero is back", x.whole(6), 0);
    }

    // ---- promise 29, digest

    private static long mix(long hash, long value) {
        return 31 * hash + value;
    }

    /** The digest from the other answers; the object gets too many calls by that for any more. */
    private static long due(EchoDungeon x, int states) {
        long h = mix(43332, states);
        for (int what = 0; what < 14; what++) {
            h = mix(h, x.whole(what));
        }
        int columns = x.whole(0);
        for (int cell = 0; cell < columns * x.whole(1); cell++) {
            h = mix(h, x.border(cell % columns, cell / columns, 1));
            h = mix(h, x.border(cell % columns, cell / columns, 2));
            for (int what = 0; what < 4; what++) {
                h = mix(h, x.cell(cell % columns, cell / columns, what));
            }
        }
        return dueOfThings(x, h);
    }

    private static long dueOfThings(EchoDungeon x, long start) {
        long h = start;
        int doors = x.whole(2);
        int torches = x.whole(3);
        int monsters = x.whole(4);
        int traps = x.whole(5);
        for (int value = 0; value < doors * 6; value++) {
            h = mix(h, x.door(value / 6, value % 6));
        }
        for (int value = 0; value < torches * 4; value++) {
            h = mix(h, x.torch(value / 4, value % 4));
        }
        for (int value = 0; value < monsters * 9; value++) {
            h = mix(h, value % 9 < 8 ? x.monster(value / 9, value % 9) : x.nextStep(value / 9));
        }
        for (int value = 0; value < traps * 4; value++) {
            h = mix(h, x.trap(value / 4, value % 4));
        }
        for (int action = 0; action < 16; action++) {
            h = mix(h, x.reason(action));
        }
        return h;
    }

    private static void digest(String when, Supplier<EchoDungeon> maker, int states) {
        EchoDungeon x = maker.get();
        long due = due(maker.get(), states);
        Check.same(when + " digest()", x.digest(), due);
        Check.same(when + " digest() again", x.digest(), due);
    }

    private static void promise29FromTheSmallestToTheLargest() {
        digest("new", EchoDungeon::new, 0);
        digest("one cell", () -> dungeon(1, 1), 1);
        digest("a row", () -> dungeon(8, 1), 1);
        digest("a column", () -> dungeon(1, 6), 1);
        digest("the largest", () -> dungeon(8, 6), 1);
        digest("busy", Twins::busy, 4);
        digest("full, without its text", () -> {
            // The text would take so many calls that too few are left for all the values.
            EchoDungeon x = dungeon(7, 5);
            for (int n = 0; n < 10; n++) {
                x.addDoor(n % 3 * 2, n / 3, n % 2 + 1, n, 9 - n);
            }
            for (int n = 0; n < 6; n++) {
                x.addTorch(n, n % 5, n);
                x.addMonster(6, n % 5, 1, n % 2);
                x.setTrap(n, 4);
            }
            x.act(15);
            return x;
        }, 4);
    }

    private static void promise29BeginsWithTheNumberOfSavedStates() {
        for (int calls = 0; calls <= 6; calls++) {
            int walls = calls;
            digest(calls + " calls", () -> {
                EchoDungeon x = new EchoDungeon();
                for (int n = 0; n < walls; n++) {
                    x.setWall(0, 0, 1, false);
                }
                return x;
            }, Math.min(calls, 4));
        }
        EchoDungeon x = new EchoDungeon();
        long before = x.digest();
        x.setWall(0, 0, 1, false);
        Check.same("one state more changes it", x.digest() == before ? 1 : 0, 0);
        x.undo();
        Check.same("and one less, back", x.digest(), before);
    }

    /** The values of a new object as the document tells them, in whole numbers without an end. */
    private static void promise29WrapsAround() {
        List<Integer> values = new ArrayList<>(Arrays.asList(0, 5, 4, 0, 0, 0, 0, 0, 0, 5, 20, 0, 0, 0, 0));
        for (int cell = 0; cell < 20; cell++) {
            values.addAll(Arrays.asList(cell % 5 == 4 ? 1 : 0, cell / 5 == 3 ? 1 : 0, 0, 0, -1, 0));
        }
        values.addAll(Arrays.asList(2, 0, 0, 2, 3, 3, 3, 3, 3, 3, 3, 3, 0, 0, 6, 0));
        BigInteger hash = BigInteger.valueOf(43332);
        for (int value : values) {
            hash = hash.multiply(BigInteger.valueOf(31)).add(BigInteger.valueOf(value));
        }
        Check.same("more than a long holds", hash.bitLength() > 64 ? 1 : 0, 1);
        Check.same("digest()", new EchoDungeon().digest(), hash.longValue());
    }

    private static void promise29DependsOnTheLengthOfTheTextAlone() {
        EchoDungeon x = new EchoDungeon();
        long before = x.digest();
        x.type('n');
        Check.same("a byte changes it", x.digest() == before ? 1 : 0, 0);
        EchoDungeon other = new EchoDungeon();
        other.type('z');
        Check.same("another byte is the same", other.digest(), x.digest());
        x.clearActions();
        Check.same("none, back", x.digest(), before);
    }

    private static void promise29ChangesNothing() {
        Twins.onlyAsked("digest()", Twins::busy, EchoDungeon::digest);
        Twins.onlyAsked("digest() of a full one", Twins::full, EchoDungeon::digest);
        Twins.onlyAsked("digest() of a new one", EchoDungeon::new, EchoDungeon::digest);
    }

    public static void main(String[] args) {
        Check.promises(28, 29, UndoBoundaryTest.class);
    }
}
