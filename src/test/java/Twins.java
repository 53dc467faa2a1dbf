import java.util.function.Consumer;
import java.util.function.Supplier;

/**
 * Two objects that were made by the same calls. One of them gets a call more that has to leave
 * everything as it was, also what no single answer shows: the saved states and the action text.
 */
final class Twins {
    /** Beside and far beside the six columns and four rows of busy(). */
    static final int[][] NO_CELLS = {{-1, 0}, {6, 0}, {0, -1}, {0, 4}, {6, 4}, {-1, -1}, {7, 3}, {3, 5},
        {8, 0}, {-8, 1}, {Integer.MIN_VALUE, 0}, {Integer.MAX_VALUE, 0}, {0, Integer.MIN_VALUE}, {0, Integer.MAX_VALUE}};

    private static final int NO_STATE = -99;

    private Twins() {
    }

    /** The call must throw this exception, and change nothing. */
    static void refused(String what, Class<? extends RuntimeException> due, Supplier<EchoDungeon> maker,
            Consumer<EchoDungeon> call) {
        EchoDungeon x = maker.get();
        Check.fails(what, due, () -> call.accept(x));
        alike(what + " is refused and then", x, maker.get());
    }

    /** The call must not throw, and change nothing. */
    static void onlyAsked(String what, Supplier<EchoDungeon> maker, Consumer<EchoDungeon> call) {
        EchoDungeon x = maker.get();
        call.accept(x);
        alike(what + " is asked and then", x, maker.get());
    }

    /** Compares everything of two objects; both are used up by that. */
    static void alike(String what, EchoDungeon x, EchoDungeon twin) {
        Check.same(what + " digest()", x.digest(), twin.digest());
        for (int state = 1; state <= 5; state++) {
            int left = undo(twin);
            Check.same(what + " undo() " + state, undo(x), left);
            Check.same(what + " digest() after undo() " + state, x.digest(), twin.digest());
        }
        Check.same(what + " runActions()", x.runActions(), twin.runActions());
        Check.same(what + " digest() after runActions()", x.digest(), twin.digest());
    }

    private static int undo(EchoDungeon x) {
        try {
            return x.undo();
        } catch (IllegalStateException e) {
            return NO_STATE;
        }
    }

    static void type(EchoDungeon x, String text) {
        for (int i = 0; i < text.length(); i++) {
            x.type(text.charAt(i));
        }
    }

    /** Six columns, four rows, and something of everything, in the middle of a chase. */
    static EchoDungeon busy() {
        EchoDungeon x = new EchoDungeon();
        x.begin(6, 4);
        x.addDoor(1, 0, 1, 6, 4);
        x.addDoor(0, 1, 2, 0, 3);
        x.setWall(2, 2, 1, true);
        x.setWall(3, 0, 2, true);
        x.addTorch(3, 1, 9);
        x.addTorch(0, 3, 0);
        x.addMonster(5, 0, 1, 1);
        x.addMonster(4, 3, 2, 0);
        x.setTrap(1, 0);
        x.setTrap(3, 3);
        x.placeHero(0, 0, 8, 30);
        x.act(13);
        x.act(1);
        x.act(5);
        x.act(15);
        type(x, "2s.e");
        return x;
    }

    /** Eight columns, six rows, and nothing more of anything can be added. */
    static EchoDungeon full() {
        EchoDungeon x = new EchoDungeon();
        x.begin(8, 6);
        for (int n = 0; n < 10; n++) {
            x.addDoor(n % 4 * 2, n / 4, n % 2 + 1, n, 9 - n);
        }
        for (int n = 0; n < 6; n++) {
            x.addTorch(n, 5 - n, 10 + n);
            x.addMonster(7, n, n + 1, n % 2);
            x.setTrap(n + 1, 5);
        }
        x.placeHero(0, 4, 7, 40);
        x.setDoor(3, 1);
        x.setDoor(4, 2);
        x.act(15);
        x.act(2);
        type(x, "17e2.l".repeat(20));
        return x;
    }
}
