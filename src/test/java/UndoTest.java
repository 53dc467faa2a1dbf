/** Promises 28 and 29: undo and digest. */
public final class UndoTest {
    private static final Class<IllegalStateException> STATE = Check.STATE;

    private static void promise28Undo() {
        EchoDungeon x = new EchoDungeon();
        Check.fails("undo() of nothing", STATE, x::undo);
        for (int n = 1; n <= 6; n++) {
            x.act(12);
        }
        Check.same("four states are kept, three are left", x.undo(), 3);
        Check.same("five turns", x.whole(11), 5);
        x.act(12);
        x.act(12);
        Check.same("an undone state made room", x.undo(), 3);
        Check.same("undo()", x.undo(), 2);
        Check.same("undo()", x.undo(), 1);
        Check.same("undo()", x.undo(), 0);
        Check.same("the oldest state that was kept", x.whole(11), 3);
        Check.fails("undo() of no more", STATE, x::undo);
        Check.same("a failed undo() changes nothing", x.whole(11), 3);
    }

    /** Each call saves a state, also if it changes nothing. */
    private static void undoableCalls() {
        EchoDungeon x = new EchoDungeon();
        x.begin(5, 4);
        Check.same("begin", x.undo(), 0);
        x.setWall(0, 0, 1, false);
        Check.same("setWall", x.undo(), 0);
        x.addDoor(0, 0, 1, 0, 0);
        Check.same("addDoor", x.undo(), 0);
        x.addTorch(0, 0, 0);
        Check.same("addTorch", x.undo(), 0);
        x.addMonster(0, 0, 9, 0);
        Check.same("addMonster", x.undo(), 0);
        x.setTrap(0, 0);
        x.setTrap(0, 0);
        Check.same("setTrap without a change", x.undo(), 1);
        Check.same("setTrap", x.undo(), 0);
        x.placeHero(0, 0, 5, 20);
        Check.same("placeHero", x.undo(), 0);
        x.act(12);
        Check.same("act", x.undo(), 0);
        x.runActions();
        Check.same("runActions", x.undo(), 0);
        x.addDoor(0, 0, 1, 0, 0);
        x.setDoor(0, 0);
        Check.same("setDoor without a change", x.undo(), 1);
        x.reason(0);
        x.safeTimes(12);
        x.type('z');
        x.runActions();
        x.clearActions();
        x.digest();
        Check.same("the other calls save nothing", x.undo(), 0);
    }

    /** Everything that a state holds comes back. */
    private static void wholeStates() {
        for (int steps = 0; steps < 19; steps++) {
            boolean undoable = steps + 1 != 9 && steps + 1 != 10;
            if (undoable) {
                EchoDungeon x = after(steps + 1);
                x.undo();
                Check.same("undo() of step " + (steps + 1), valuesOf(x), valuesOf(after(steps)));
            }
        }
    }

    private static void theTextIsNotUndone() {
        EchoDungeon x = new EchoDungeon();
        x.begin(8, 6);
        x.type('n');
        x.undo();
        Check.same("columns", x.whole(0), 5);
        Check.same("the text stays", x.whole(13), 1);
        x.runActions();
        x.clearActions();
        x.undo();
        Check.same("and stays empty", x.whole(13), 0);
    }

    /** The digest without the number of saved states, from the calls that it is made of. */
    private static long valuesOf(EchoDungeon x) {
        int[] whole = new int[14];
        long h = 0;
        for (int what = 0; what < 14; what++) {
            whole[what] = x.whole(what);
            h = 31 * h + whole[what];
        }
        for (int cell = 0; cell < whole[0] * whole[1]; cell++) {
            int column = cell % whole[0];
            int row = cell / whole[0];
            h = 31 * h + x.border(column, row, 1);
            h = 31 * h + x.border(column, row, 2);
            for (int what = 0; what < 4; what++) {
                h = 31 * h + x.cell(column, row, what);
            }
        }
        for (int value = 0; value < whole[2] * 6; value++) {
            h = 31 * h + x.door(value / 6, value % 6);
        }
        for (int value = 0; value < whole[3] * 4; value++) {
            h = 31 * h + x.torch(value / 4, value % 4);
        }
        for (int value = 0; value < whole[4] * 9; value++) {
            h = 31 * h + (value % 9 < 8 ? x.monster(value / 9, value % 9) : x.nextStep(value / 9));
        }
        for (int value = 0; value < whole[5] * 4; value++) {
            h = 31 * h + x.trap(value / 4, value % 4);
        }
        for (int action = 0; action < 16; action++) {
            h = 31 * h + x.reason(action);
        }
        return h;
    }

    /** 31 to the power of the number of values, which the first values are multiplied with. */
    private static long power(EchoDungeon x) {
        int values = 14 + 6 * x.whole(0) * x.whole(1) + 6 * x.whole(2) + 4 * x.whole(3)
            + 9 * x.whole(4) + 4 * x.whole(5) + 16;
        long power = 1;
        for (int n = 0; n < values; n++) {
            power *= 31;
        }
        return power;
    }

    /** Makes the first steps of a run on a new object, so that no object gets too many calls. */
    private static EchoDungeon after(int steps) {
        EchoDungeon x = new EchoDungeon();
        int[] actions = {13, 5, 1, 12, 15, 2};
        for (int step = 1; step <= steps; step++) {
            switch (step) {
                case 1: x.addDoor(0, 0, 1, 4, 5); break;
                case 2: x.addTorch(2, 1, 9); break;
                case 3: x.addMonster(3, 0, 2, 1); break;
                case 4: x.setTrap(1, 0); break;
                case 5: x.setTrap(1, 2); break;
                case 6: x.addMonster(3, 3, 2, 0); break;
                case 7: x.addDoor(4, 1, 2, 4, 5); break;
                case 8: x.addTorch(4, 3, 0); break;
                case 9: x.type('l'); break;
                case 10: x.undo(); break;
                case 17: x.begin(8, 6); break;
                case 18: x.addMonster(7, 5, 1, 1); break;
                case 19: x.begin(1, 1); break;
                default: x.act(actions[step - 11]);
            }
        }
        return x;
    }

    private static void promise29Digest() {
        int[] states = {0, 1, 2, 3, 4, 4, 4, 4, 4, 4, 3, 4, 4, 4, 4, 4, 4, 4, 4, 4};
        for (int steps = 0; steps < states.length; steps++) {
            EchoDungeon x = after(steps);
            long due = (43332L * 31 + states[steps]) * power(x) + valuesOf(x);
            Check.same("digest() after " + steps + " steps", x.digest(), due);
            Check.same("digest() again after " + steps + " steps", x.digest(), due);
        }
        Check.same("a new object's digest as written out", new EchoDungeon().digest(), -5227200885447412071L);
    }

    public static void main(String[] args) {
        promise28Undo();
        undoableCalls();
        wholeStates();
        theTextIsNotUndone();
        promise29Digest();
        Check.finish();
    }
}
