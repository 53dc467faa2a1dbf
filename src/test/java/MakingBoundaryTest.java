/** Promises 1 to 9 at their boundaries: a new object, and the making of a dungeon. */
public final class MakingBoundaryTest {
    private static final Class<IndexOutOfBoundsException> BOUNDS = Check.BOUNDS;
    private static final Class<IllegalArgumentException> ARGUMENT = Check.ARGUMENT;
    private static final Class<IllegalStateException> STATE = Check.STATE;
    private static final int LEAST = Integer.MIN_VALUE;
    private static final int MOST = Integer.MAX_VALUE;

    private static EchoDungeon dungeon(int columns, int rows) {
        EchoDungeon x = new EchoDungeon();
        x.begin(columns, rows);
        return x;
    }

    private static void whole(String when, EchoDungeon x, int... due) {
        for (int what = 0; what < due.length; what++) {
            Check.same(when + " whole(" + what + ")", x.whole(what), due[what]);
        }
    }

    /** All borders of a dungeon that has just begun: free inside, walls around. */
    private static void freeBorders(String when, EchoDungeon x, int columns, int rows) {
        for (int column = 0; column < columns; column++) {
            for (int row = 0; row < rows; row++) {
                boolean[] edge = {row == 0, column == columns - 1, row == rows - 1, column == 0};
                for (int direction = 0; direction < 4; direction++) {
                    Check.same(when + " border(" + column + ", " + row + ", " + direction + ")",
                        x.border(column, row, direction), edge[direction] ? 1 : 0);
                }
            }
        }
    }

    private static void emptyCells(String when, EchoDungeon x, int columns, int rows) {
        int[] due = {0, 0, -1, 0};
        for (int column = 0; column < columns; column++) {
            for (int row = 0; row < rows; row++) {
                for (int what = 0; what < 4; what++) {
                    Check.same(when + " cell(" + column + ", " + row + ", " + what + ")",
                        x.cell(column, row, what), due[what]);
                }
            }
        }
    }

    private static void doorValues(String when, EchoDungeon x, int door, int... due) {
        for (int what = 0; what < 6; what++) {
            Check.same(when + " door(" + door + ", " + what + ")", x.door(door, what), due[what]);
        }
    }

    // ---- promise 1, a new object

    private static void promise1HasFiveColumnsAndFourRows() {
        EchoDungeon x = new EchoDungeon();
        freeBorders("new", x, 5, 4);
        Check.fails("a sixth column", BOUNDS, () -> x.border(5, 3, 0));
        Check.fails("a fifth row", BOUNDS, () -> x.border(4, 4, 0));
    }

    private static void promise1HasTheHeroInTheFirstCellAndNothingElse() {
        EchoDungeon x = new EchoDungeon();
        whole("new", x, 5, 4, 0, 0, 0, 0, 0, 0, 5, 20, 0, 0, 0, 0);
        emptyCells("new", x, 5, 4);
        Check.fails("no door", BOUNDS, () -> x.door(0, 0));
        Check.fails("no torch", BOUNDS, () -> x.torch(0, 0));
        Check.fails("no monster", BOUNDS, () -> x.monster(0, 0));
        Check.fails("no trap", BOUNDS, () -> x.trap(0, 0));
    }

    private static void promise1HasAnEmptyText() {
        Check.same("clearActions()", new EchoDungeon().clearActions(), 0);
        Check.same("runActions()", new EchoDungeon().runActions(), 0);
    }

    private static void promise1HasAnEmptyUndoStack() {
        Twins.refused("undo()", STATE, EchoDungeon::new, EchoDungeon::undo);
    }

    private static void promise1ObjectsHaveNothingInCommon() {
        EchoDungeon other = Twins.full();
        EchoDungeon x = new EchoDungeon();
        whole("beside another", x, 5, 4, 0, 0, 0, 0, 0, 0, 5, 20, 0, 0, 0, 0);
        x.begin(1, 1);
        Twins.alike("beside one that begins", other, Twins.full());
    }

    // ---- promise 2, begin

    private static void promise2TakesOneToEightColumnsAndOneToSixRows() {
        for (int columns = 1; columns <= 8; columns++) {
            for (int rows = 1; rows <= 6; rows++) {
                EchoDungeon x = dungeon(columns, rows);
                int right = columns;
                int under = rows;
                whole("begun", x, columns, rows, 0, 0, 0, 0, 0, 0, 5, 20, 0, 0, 0, 0);
                freeBorders(columns + " columns, " + rows + " rows", x, columns, rows);
                Check.fails("behind the last column", BOUNDS, () -> x.border(right, 0, 0));
                Check.fails("under the last row", BOUNDS, () -> x.border(0, under, 0));
            }
        }
    }

    private static void promise2RefusesOtherSizes() {
        int[][] sizes = {{0, 1}, {9, 6}, {1, 0}, {8, 7}, {0, 0}, {9, 7}, {-1, 4}, {4, -1}, {-5, -4},
            {LEAST, 4}, {MOST, 4}, {4, LEAST}, {4, MOST}};
        for (int[] a : sizes) {
            String call = "begin(" + a[0] + ", " + a[1] + ")";
            Twins.refused(call, ARGUMENT, Twins::busy, x -> x.begin(a[0], a[1]));
            Twins.refused(call + " as the first call", ARGUMENT, EchoDungeon::new, x -> x.begin(a[0], a[1]));
        }
    }

    private static void promise2ReturnsTheTurnsBefore() {
        EchoDungeon x = new EchoDungeon();
        Check.same("no turn", x.begin(5, 4), 0);
        x.act(12);
        Check.same("one turn", x.begin(5, 4), 1);
        Check.same("turn 0 again", x.whole(11), 0);
        Check.same("no turn since", x.begin(5, 4), 0);
        Twins.type(x, "20.".repeat(40));
        x.runActions();
        Check.same("the turns of the longest text", x.begin(5, 4), 800);
    }

    private static void promise2LeavesNothingOfTheDungeonBefore() {
        EchoDungeon x = Twins.full();
        x.begin(8, 6);
        freeBorders("begun", x, 8, 6);
        x = Twins.full();
        x.begin(8, 6);
        emptyCells("begun", x, 8, 6);
        whole("begun", x, 8, 6, 0, 0, 0, 0, 0, 0, 5, 20, 0, 0, 0, 120);
    }

    private static void promise2PutsTheTorchOut() {
        EchoDungeon x = new EchoDungeon();
        x.act(13);
        x.begin(5, 4);
        Check.same("not lit", x.whole(10), 0);
        Check.same("20 fuel", x.whole(9), 20);
        Check.same("no lit cell", x.whole(12), 0);
    }

    private static void promise2LetsNumbersBeginWithZeroAgain() {
        EchoDungeon x = Twins.full();
        x.act(1);
        x.begin(8, 6);
        Check.same("a door", x.addDoor(0, 0, 1, 3, 4), 0);
        doorValues("made again", x, 0, 0, 3, 4, -1, 0, 0);
        Check.same("a torch", x.addTorch(7, 5, 0), 0);
        Check.same("it has no light", x.torch(0, 3), 0);
        Check.same("a monster", x.addMonster(1, 0, 2, 0), 0);
        int[] monster = {1, 0, 2, 0, -1, -1, 0, 0};
        for (int what = 0; what < 8; what++) {
            Check.same("monster(0, " + what + ")", x.monster(0, what), monster[what]);
        }
        Check.same("a trap in a cell that had one", x.setTrap(1, 5), 0);
        int[] trap = {1, 5, 2, 0};
        for (int what = 0; what < 4; what++) {
            Check.same("trap(0, " + what + ")", x.trap(0, what), trap[what]);
        }
    }

    private static void promise2LeavesTheTextAndCanBeUndone() {
        EchoDungeon x = Twins.busy();
        x.begin(1, 1);
        Check.same("the text stays", x.whole(13), 4);
        Check.same("undo()", x.undo(), 3);
        Check.same("the columns of before", x.whole(0), 6);
        Check.same("the rows of before", x.whole(1), 4);
        Check.same("the wall of before", x.border(2, 2, 1), 1);
        Check.same("the door of before", x.border(0, 1, 2), 3);
        Check.same("the turns of before", x.whole(11), 4);
    }

    // ---- promise 3, setWall

    private static void promise3RefusesCellsOutside() {
        for (int[] a : Twins.NO_CELLS) {
            Twins.refused("setWall(" + a[0] + ", " + a[1] + ")", BOUNDS, Twins::busy, x -> x.setWall(a[0], a[1], 1, true));
            Twins.refused("with a wrong side, too", BOUNDS, Twins::busy, x -> x.setWall(a[0], a[1], 3, false));
        }
    }

    private static void promise3RefusesOtherSidesThanOneAndTwo() {
        for (int side : new int[] {0, 3, -1, 4, LEAST, MOST}) {
            Twins.refused("side " + side, ARGUMENT, Twins::busy, x -> x.setWall(3, 1, side, true));
            Twins.refused("side " + side + " of a cell with doors", ARGUMENT, Twins::busy, x -> x.setWall(2, 0, side, true));
        }
    }

    private static void promise3RefusesBordersWithNoCellBehind() {
        for (int row = 0; row < 6; row++) {
            int y = row;
            Twins.refused("east of (7, " + y + ")", ARGUMENT, Twins::full, x -> x.setWall(7, y, 1, y > 2));
            EchoDungeon x = dungeon(8, 6);
            Check.same("east of (6, " + y + ")", x.setWall(6, y, 1, true), 0);
            Check.same("the wall", x.border(7, y, 3), 1);
        }
        for (int column = 0; column < 8; column++) {
            int c = column;
            Twins.refused("south of (" + c + ", 5)", ARGUMENT, Twins::full, x -> x.setWall(c, 5, 2, c > 2));
            EchoDungeon x = dungeon(8, 6);
            Check.same("south of (" + c + ", 4)", x.setWall(c, 4, 2, true), 0);
            Check.same("the wall", x.border(c, 5, 0), 1);
        }
        Twins.refused("east of the only cell", ARGUMENT, () -> dungeon(1, 1), x -> x.setWall(0, 0, 1, true));
        Twins.refused("south of the only cell", ARGUMENT, () -> dungeon(1, 1), x -> x.setWall(0, 0, 2, true));
        Twins.refused("south of a row", ARGUMENT, () -> dungeon(8, 1), x -> x.setWall(3, 0, 2, true));
        Twins.refused("east of a column", ARGUMENT, () -> dungeon(1, 6), x -> x.setWall(0, 3, 1, true));
    }

    private static void promise3RefusesDoorsInEveryState() {
        for (int state = 0; state <= 2; state++) {
            for (int wall = 0; wall <= 1; wall++) {
                int now = state;
                boolean wanted = wall == 1;
                Twins.refused("a door in state " + now, STATE, () -> {
                    EchoDungeon x = Twins.busy();
                    x.setDoor(1, now);
                    return x;
                }, x -> x.setWall(0, 1, 2, wanted));
            }
        }
        EchoDungeon x = Twins.busy();
        Check.fails("a wall in a door", STATE, () -> x.setWall(1, 0, 1, true));
        Check.same("beside the doors", x.setWall(2, 0, 1, true), 0);
        Check.same("under a door", x.setWall(0, 2, 2, true), 0);
    }

    private static void promise3ReturnsWhatTheBorderWas() {
        for (int side = 1; side <= 2; side++) {
            EchoDungeon x = new EchoDungeon();
            Check.same("free to a wall", x.setWall(3, 2, side, true), 0);
            Check.same("a wall to a wall", x.setWall(3, 2, side, true), 1);
            Check.same("it is a wall", x.border(3, 2, side), 1);
            Check.same("a wall to free", x.setWall(3, 2, side, false), 1);
            Check.same("free to free", x.setWall(3, 2, side, false), 0);
            Check.same("it is free", x.border(3, 2, side), 0);
        }
    }

    private static void promise3ChangesThisBorderAlone() {
        int[][] walls = {{2, 1, 1, 3, 1}, {0, 0, 1, 1, 0}, {2, 1, 2, 2, 2}, {0, 2, 2, 0, 3}};
        for (int[] a : walls) {
            EchoDungeon x = new EchoDungeon();
            x.setWall(a[0], a[1], a[2], true);
            Check.same("from its cell", x.border(a[0], a[1], a[2]), 1);
            Check.same("from behind", x.border(a[3], a[4], a[2] == 1 ? 3 : 0), 1);
            int seen = 0;
            for (int cell = 0; cell < 20; cell++) {
                for (int direction = 0; direction < 4; direction++) {
                    seen += x.border(cell % 5, cell / 5, direction);
                }
            }
            Check.same("with the 18 sides around the dungeon", seen, 20);
            x.setWall(a[0], a[1], a[2], false);
            freeBorders("free again", x, 5, 4);
        }
    }

    // ---- promise 4, addDoor

    private static void promise4RefusesCellsOutside() {
        for (int[] a : Twins.NO_CELLS) {
            Twins.refused("addDoor(" + a[0] + ", " + a[1] + ")", BOUNDS, Twins::busy, x -> x.addDoor(a[0], a[1], 1, 0, 0));
            Twins.refused("with all else wrong", BOUNDS, Twins::busy, x -> x.addDoor(a[0], a[1], 0, 10, -1));
        }
        Twins.refused("with ten doors", BOUNDS, Twins::full, x -> x.addDoor(8, 0, 1, 0, 0));
    }

    private static void promise4RefusesWrongSides() {
        for (int side : new int[] {0, 3, -1, LEAST, MOST}) {
            Twins.refused("side " + side, ARGUMENT, Twins::busy, x -> x.addDoor(3, 2, side, 0, 0));
            Twins.refused("side " + side + " of a cell with a door", ARGUMENT, Twins::busy, x -> x.addDoor(2, 0, side, 0, 0));
            Twins.refused("side " + side + " and ten doors", ARGUMENT, Twins::full, x -> x.addDoor(3, 2, side, 0, 0));
        }
        for (int row = 0; row < 6; row++) {
            int y = row;
            Twins.refused("east of (7, " + y + ")", ARGUMENT, () -> dungeon(8, 6), x -> x.addDoor(7, y, 1, 0, 0));
            Check.same("east of (6, " + y + ")", dungeon(8, 6).addDoor(6, y, 1, 0, 0), 0);
        }
        for (int column = 0; column < 8; column++) {
            int c = column;
            Twins.refused("south of (" + c + ", 5)", ARGUMENT, () -> dungeon(8, 6), x -> x.addDoor(c, 5, 2, 0, 0));
            Check.same("south of (" + c + ", 4)", dungeon(8, 6).addDoor(c, 4, 2, 0, 0), 0);
        }
        Twins.refused("no cell behind, and ten doors", ARGUMENT, Twins::full, x -> x.addDoor(7, 0, 1, 0, 0));
    }

    private static void promise4SpringIsZeroToNine() {
        for (int spring = 0; spring <= 9; spring++) {
            EchoDungeon x = new EchoDungeon();
            Check.same("spring " + spring, x.addDoor(1, 1, 1, spring, 4), 0);
            doorValues("new", x, 0, 0, spring, 4, -1, 0, 0);
        }
        for (int spring : new int[] {-1, 10, LEAST, MOST}) {
            Twins.refused("spring " + spring, ARGUMENT, Twins::busy, x -> x.addDoor(3, 2, 1, spring, 0));
            Twins.refused("spring " + spring + " in a door", ARGUMENT, Twins::busy, x -> x.addDoor(1, 0, 1, spring, 0));
            Twins.refused("spring " + spring + " and ten doors", ARGUMENT, Twins::full, x -> x.addDoor(3, 3, 1, spring, 0));
        }
    }

    private static void promise4CreakIsZeroToNine() {
        for (int creak = 0; creak <= 9; creak++) {
            EchoDungeon x = new EchoDungeon();
            Check.same("creak " + creak, x.addDoor(1, 1, 2, 4, creak), 0);
            doorValues("new", x, 0, 0, 4, creak, -1, 0, 0);
        }
        for (int creak : new int[] {-1, 10, LEAST, MOST}) {
            Twins.refused("creak " + creak, ARGUMENT, Twins::busy, x -> x.addDoor(3, 2, 1, 0, creak));
            Twins.refused("creak " + creak + " in a door", ARGUMENT, Twins::busy, x -> x.addDoor(0, 1, 2, 0, creak));
            Twins.refused("creak " + creak + " and ten doors", ARGUMENT, Twins::full, x -> x.addDoor(3, 3, 1, 0, creak));
        }
    }

    private static void promise4TakesTenDoors() {
        EchoDungeon x = dungeon(8, 2);
        for (int door = 0; door < 10; door++) {
            Check.same("the door " + door, x.addDoor(door % 7, door / 7, 1, 0, 0), door);
            Check.same("doors", x.whole(2), door + 1);
            Check.same("its border", x.border(door % 7, door / 7, 1), 2 + door);
        }
        Check.fails("an eleventh", STATE, () -> x.addDoor(0, 0, 2, 0, 0));
        Twins.refused("an eleventh door", STATE, Twins::full, y -> y.addDoor(5, 5, 1, 9, 9));
        Check.same("one is undone", x.undo(), 3);
        Check.same("there is room again", x.addDoor(0, 0, 2, 1, 2), 9);
        doorValues("in the room of the other", x, 9, 0, 1, 2, -1, 0, 0);
        Check.same("the border of the one that was undone", x.border(2, 1, 1), 0);
    }

    private static void promise4RefusesASecondDoorInABorder() {
        Twins.refused("in an open door", STATE, Twins::busy, x -> x.addDoor(1, 0, 1, 0, 0));
        Twins.refused("in a closed door", STATE, Twins::busy, x -> x.addDoor(0, 1, 2, 9, 9));
        Twins.refused("in a door, and ten doors", STATE, Twins::full, x -> x.addDoor(0, 0, 1, 0, 0));
    }

    private static void promise4MakesADoorOfAWall() {
        EchoDungeon x = Twins.busy();
        Check.same("in a wall", x.addDoor(2, 2, 1, 0, 0), 2);
        Check.same("the door", x.border(2, 2, 1), 4);
        Check.same("from behind", x.border(3, 2, 3), 4);
        Check.same("undo()", x.undo(), 3);
        Check.same("the wall again", x.border(2, 2, 1), 1);
        Check.same("the doors again", x.whole(2), 2);
        Check.same("none is left behind", x.border(3, 2, 3), 1);
    }

    // ---- promise 5, setDoor

    private static void promise5RefusesNumbersWithoutADoor() {
        for (int door : new int[] {-1, 2, 10, LEAST, MOST}) {
            Twins.refused("door " + door, BOUNDS, Twins::busy, x -> x.setDoor(door, 1));
            Twins.refused("door " + door + " and a wrong state", BOUNDS, Twins::busy, x -> x.setDoor(door, 3));
        }
        Twins.refused("the first of none", BOUNDS, EchoDungeon::new, x -> x.setDoor(0, 0));
        Twins.refused("the eleventh", BOUNDS, Twins::full, x -> x.setDoor(10, 0));
        Check.same("the tenth", Twins.full().setDoor(9, 2), 0);
        Check.same("the first", Twins.full().setDoor(0, 2), 0);
    }

    private static void promise5RefusesOtherStatesThanZeroToTwo() {
        for (int state : new int[] {-1, 3, LEAST, MOST}) {
            Twins.refused("state " + state, ARGUMENT, Twins::busy, x -> x.setDoor(0, state));
        }
    }

    private static void promise5ReturnsTheStateBefore() {
        for (int before = 0; before <= 2; before++) {
            for (int after = 0; after <= 2; after++) {
                EchoDungeon x = new EchoDungeon();
                x.addDoor(2, 2, 1, 5, 6);
                x.setDoor(0, before);
                Check.same(before + " becomes " + after, x.setDoor(0, after), before);
                doorValues(before + " became " + after, x, 0, after, 5, 6, -1, 0, after == 1 ? 5 : 0);
                Check.same("it is saved", x.undo(), 2);
                Check.same("undone", x.door(0, 0), before);
            }
        }
    }

    private static void promise5GivesTheSpringAsTurnsLeft() {
        for (int spring = 0; spring <= 9; spring++) {
            EchoDungeon x = new EchoDungeon();
            x.addDoor(2, 2, 1, spring, 0);
            x.setDoor(0, 1);
            Check.same("spring " + spring, x.door(0, 5), spring);
            x.act(12);
            x.setDoor(0, 1);
            Check.same("once more, with spring " + spring, x.door(0, 5), spring);
        }
    }

    private static void promise5LeavesWhoPassedAndHowOften() {
        for (int state = 0; state <= 2; state++) {
            EchoDungeon x = new EchoDungeon();
            x.addDoor(0, 0, 1, 0, 0);
            x.setDoor(0, 1);
            x.act(1);
            x.setDoor(0, state);
            doorValues("passed", x, 0, state, 0, 0, 0, 1, 0);
        }
    }

    // ---- promise 6, addTorch

    private static void promise6RefusesCellsOutside() {
        for (int[] a : Twins.NO_CELLS) {
            Twins.refused("addTorch(" + a[0] + ", " + a[1] + ")", BOUNDS, Twins::busy, x -> x.addTorch(a[0], a[1], 5));
            Twins.refused("with wrong fuel", BOUNDS, Twins::busy, x -> x.addTorch(a[0], a[1], 100));
        }
        Twins.refused("with six torches", BOUNDS, Twins::full, x -> x.addTorch(0, 6, 0));
    }

    private static void promise6FuelIsZeroToNinetyNine() {
        for (int fuel : new int[] {0, 1, 2, 98, 99}) {
            EchoDungeon x = new EchoDungeon();
            Check.same("fuel " + fuel, x.addTorch(4, 3, fuel), 0);
            Check.same("its column", x.torch(0, 0), 4);
            Check.same("its row", x.torch(0, 1), 3);
            Check.same("its fuel", x.torch(0, 2), fuel);
            Check.same("lit with the fuel " + fuel, x.torch(0, 3), fuel > 0 ? 1 : 0);
            Check.same("its cell with the fuel " + fuel, x.cell(4, 3, 0), fuel > 0 ? 1 : 0);
        }
        for (int fuel : new int[] {-1, 100, LEAST, MOST}) {
            Twins.refused("fuel " + fuel, ARGUMENT, Twins::busy, x -> x.addTorch(0, 0, fuel));
            Twins.refused("fuel " + fuel + " and six torches", ARGUMENT, Twins::full, x -> x.addTorch(0, 0, fuel));
        }
    }

    private static void promise6TakesSixTorches() {
        EchoDungeon x = new EchoDungeon();
        for (int torch = 0; torch < 6; torch++) {
            Check.same("the torch " + torch + " in the same cell", x.addTorch(2, 2, torch), torch);
            Check.same("torches", x.whole(3), torch + 1);
        }
        Check.fails("a seventh", STATE, () -> x.addTorch(0, 0, 5));
        Twins.refused("a seventh torch", STATE, Twins::full, y -> y.addTorch(7, 5, 99));
        Check.same("one is undone", x.undo(), 3);
        Check.same("there is room again", x.addTorch(1, 1, 0), 5);
        Check.same("it is not lit", x.torch(5, 3), 0);
    }

    // ---- promise 7, addMonster

    private static void promise7RefusesCellsOutside() {
        for (int[] a : Twins.NO_CELLS) {
            Twins.refused("addMonster(" + a[0] + ", " + a[1] + ")", BOUNDS, Twins::busy, x -> x.addMonster(a[0], a[1], 5, 1));
            Twins.refused("with all else wrong", BOUNDS, Twins::busy, x -> x.addMonster(a[0], a[1], 0, 2));
        }
        Twins.refused("with six monsters", BOUNDS, Twins::full, x -> x.addMonster(8, 5, 1, 0));
    }

    private static void promise7EarIsOneToNine() {
        for (int ear = 1; ear <= 9; ear++) {
            EchoDungeon x = new EchoDungeon();
            Check.same("ear " + ear, x.addMonster(4, 3, ear, 0), 0);
            Check.same("its ear", x.monster(0, 2), ear);
        }
        for (int ear : new int[] {0, 10, -1, LEAST, MOST}) {
            Twins.refused("ear " + ear, ARGUMENT, Twins::busy, x -> x.addMonster(0, 0, ear, 0));
            Twins.refused("ear " + ear + " and six monsters", ARGUMENT, Twins::full, x -> x.addMonster(0, 0, ear, 1));
        }
    }

    private static void promise7KindIsZeroOrOne() {
        for (int kind = 0; kind <= 1; kind++) {
            EchoDungeon x = new EchoDungeon();
            x.addMonster(0, 0, 5, kind);
            Check.same("its kind", x.monster(0, 3), kind);
        }
        for (int kind : new int[] {-1, 2, LEAST, MOST}) {
            Twins.refused("kind " + kind, ARGUMENT, Twins::busy, x -> x.addMonster(0, 0, 5, kind));
            Twins.refused("kind " + kind + " and six monsters", ARGUMENT, Twins::full, x -> x.addMonster(0, 0, 5, kind));
        }
    }

    private static void promise7TakesSixMonsters() {
        EchoDungeon x = new EchoDungeon();
        for (int monster = 0; monster < 6; monster++) {
            Check.same("the monster " + monster + " in the hero's cell", x.addMonster(0, 0, 9, 0), monster);
            Check.same("monsters", x.whole(4), monster + 1);
            Check.same("set of monsters", x.cell(0, 0, 1), (2 << monster) - 1);
        }
        Check.fails("a seventh", STATE, () -> x.addMonster(0, 0, 9, 0));
        Twins.refused("a seventh monster", STATE, Twins::full, y -> y.addMonster(0, 0, 1, 1));
        Check.same("a monster that is added hurts nobody yet", x.whole(8), 5);
    }

    private static void promise7HasNoGoalAfterAnotherWasUndone() {
        EchoDungeon x = dungeon(4, 1);
        x.addMonster(0, 0, 1, 1);
        x.act(15);
        Check.same("a goal", x.monster(0, 4), 3);
        x.undo();
        Check.same("the goal of before", x.monster(0, 4), -1);
        x.undo();
        Check.same("a monster in its place", x.addMonster(2, 0, 9, 0), 0);
        int[] due = {2, 0, 9, 0, -1, -1, 0, 0};
        for (int what = 0; what < 8; what++) {
            Check.same("monster(0, " + what + ")", x.monster(0, what), due[what]);
        }
    }

    // ---- promise 8, setTrap

    private static void promise8RefusesCellsOutside() {
        for (int[] a : Twins.NO_CELLS) {
            Twins.refused("setTrap(" + a[0] + ", " + a[1] + ")", BOUNDS, Twins::busy, x -> x.setTrap(a[0], a[1]));
        }
        Twins.refused("with six traps", BOUNDS, Twins::full, x -> x.setTrap(8, 0));
    }

    private static void promise8TakesSixTraps() {
        EchoDungeon x = new EchoDungeon();
        for (int trap = 0; trap < 6; trap++) {
            Check.same("the trap " + trap, x.setTrap(trap % 5, trap / 5), trap);
            Check.same("traps", x.whole(5), trap + 1);
        }
        for (int trap = 0; trap < 6; trap++) {
            Check.same("the trap " + trap + " again", x.setTrap(trap % 5, trap / 5), trap);
            Check.same("traps then", x.whole(5), 6);
        }
        Check.fails("a seventh", STATE, () -> x.setTrap(1, 1));
        Twins.refused("a seventh trap", STATE, Twins::full, y -> y.setTrap(7, 5));
    }

    private static void promise8SetsEachTrapTwice() {
        for (int sprung = 0; sprung <= 2; sprung++) {
            EchoDungeon x = dungeon(2, 1);
            x.setTrap(1, 0);
            for (int n = 0; n < sprung; n++) {
                x.act(1);
                x.act(3);
            }
            Check.same("set after " + sprung + " springs", x.trap(0, 2), 2 - sprung);
            Check.same("setTrap", x.setTrap(1, 0), 0);
            Check.same("set again", x.trap(0, 2), 2);
            Check.same("how often it was sprung stays", x.trap(0, 3), sprung);
            x.undo();
            Check.same("undone", x.trap(0, 2), 2 - sprung);
        }
    }

    // ---- promise 9, placeHero

    private static void promise9RefusesCellsOutside() {
        for (int[] a : Twins.NO_CELLS) {
            Twins.refused("placeHero(" + a[0] + ", " + a[1] + ")", BOUNDS, Twins::busy, x -> x.placeHero(a[0], a[1], 5, 5));
            Twins.refused("with all else wrong", BOUNDS, Twins::busy, x -> x.placeHero(a[0], a[1], 10, 100));
        }
    }

    private static void promise9LifeIsZeroToNine() {
        for (int life = 0; life <= 9; life++) {
            EchoDungeon x = new EchoDungeon();
            Check.same("life " + life, x.placeHero(4, 3, life, 5), 0);
            whole("placed", x, 5, 4, 0, 0, 0, 0, 4, 3, life, 5, 0, 0, 0, 0);
        }
        for (int life : new int[] {-1, 10, LEAST, MOST}) {
            Twins.refused("life " + life, ARGUMENT, Twins::busy, x -> x.placeHero(5, 3, life, 5));
        }
    }

    private static void promise9FuelIsZeroToNinetyNine() {
        for (int fuel : new int[] {0, 1, 98, 99}) {
            EchoDungeon x = new EchoDungeon();
            Check.same("a dark torch with the fuel " + fuel, x.placeHero(0, 0, 5, fuel), 0);
            whole("placed", x, 5, 4, 0, 0, 0, 0, 0, 0, 5, fuel, 0, 0, 0, 0);
            x.placeHero(0, 0, 5, 9);
            x.act(13);
            Check.same("a lit torch with the fuel " + fuel, x.placeHero(0, 3, 5, fuel), fuel > 0 ? 1 : 0);
            Check.same("the fuel", x.whole(9), fuel);
            Check.same("the torch with the fuel " + fuel, x.whole(10), fuel > 0 ? 1 : 0);
        }
        for (int fuel : new int[] {-1, 100, LEAST, MOST}) {
            Twins.refused("fuel " + fuel, ARGUMENT, Twins::busy, x -> x.placeHero(5, 3, 5, fuel));
        }
    }

    private static void promise9FuelAfterNoneDoesNotLightTheTorch() {
        EchoDungeon x = new EchoDungeon();
        x.act(13);
        x.placeHero(0, 0, 5, 0);
        Check.same("with fuel again", x.placeHero(0, 0, 5, 99), 0);
        Check.same("not lit", x.whole(10), 0);
        Check.same("it can be lit", x.reason(13), 0);
    }

    private static void promise9ReturnsWhetherTheCellIsLit() {
        EchoDungeon x = dungeon(8, 1);
        x.addTorch(7, 0, 9);
        Check.same("three steps from a torch", x.placeHero(4, 0, 5, 0), 1);
        Check.same("four steps from it", x.placeHero(3, 0, 5, 0), 0);
        x.placeHero(0, 0, 5, 9);
        x.act(13);
        Check.same("with the own light", x.placeHero(3, 0, 5, 1), 1);
        Check.same("the light has come along", x.cell(1, 0, 0), 1);
        Check.same("two steps far", x.cell(0, 0, 0), 0);
    }

    private static void promise9IsNoTurnAndNoStep() {
        EchoDungeon x = dungeon(3, 1);
        x.addDoor(0, 0, 1, 3, 9);
        x.setDoor(0, 1);
        x.setTrap(1, 0);
        x.addMonster(1, 0, 1, 0);
        x.addTorch(2, 0, 3);
        x.placeHero(1, 0, 5, 9);
        Check.same("turns", x.whole(11), 0);
        Check.same("life", x.whole(8), 5);
        Check.same("the trap", x.trap(0, 2), 2);
        Check.same("the door", x.door(0, 3), -1);
        Check.same("its turns left", x.door(0, 5), 3);
        Check.same("the goal", x.monster(0, 4), -1);
        Check.same("the torch", x.torch(0, 2), 3);
    }

    public static void main(String[] args) {
        Check.promises(1, 9, MakingBoundaryTest.class);
    }
}
