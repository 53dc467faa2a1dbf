import java.util.function.Supplier;

/** Promises 10 and 11 at their boundaries: actions, what happens in a turn, and the reasons. */
public final class ActionBoundaryTest {
    private static final Class<IllegalArgumentException> ARGUMENT = Check.ARGUMENT;
    private static final Class<IllegalStateException> STATE = Check.STATE;
    private static final int[] NO_ACTIONS = {-1, 16, 17, Integer.MIN_VALUE, Integer.MAX_VALUE};
    private static final int EAST = 1;
    private static final int SOUTH = 2;
    private static final int WEST = 3;
    private static final int OPEN_EAST = 5;
    private static final int CLOSE_EAST = 9;
    private static final int WAIT = 12;
    private static final int LIGHT = 13;
    private static final int PUT_OUT = 14;
    private static final int THROW = 15;

    private static EchoDungeon dungeon(int columns, int rows) {
        EchoDungeon x = new EchoDungeon();
        x.begin(columns, rows);
        return x;
    }

    private static EchoDungeon heroAt(int column, int row) {
        EchoDungeon x = dungeon(8, 6);
        x.placeHero(column, row, 5, 20);
        return x;
    }

    /** The hero amid four doors, those to the north and south open, to the east closed, to the west locked. */
    private static EchoDungeon amidDoors() {
        EchoDungeon x = dungeon(3, 3);
        x.placeHero(1, 1, 5, 20);
        x.addDoor(1, 0, 2, 0, 0);
        x.addDoor(1, 1, 1, 0, 0);
        x.addDoor(1, 1, 2, 0, 0);
        x.addDoor(0, 1, 1, 0, 0);
        x.setDoor(0, 1);
        x.setDoor(2, 1);
        x.setDoor(3, 2);
        return x;
    }

    private static void reasons(String when, EchoDungeon x, int... due) {
        for (int action = 0; action < 16; action++) {
            Check.same(when + " reason(" + action + ")", x.reason(action), due[action]);
        }
    }

    private static void goal(String when, EchoDungeon x, int monster, int column, int row) {
        Check.same(when + " goal column of " + monster, x.monster(monster, 4), column);
        Check.same(when + " goal row of " + monster, x.monster(monster, 5), row);
    }

    private static void place(String when, EchoDungeon x, int monster, int column, int row) {
        Check.same(when + " column of " + monster, x.monster(monster, 0), column);
        Check.same(when + " row of " + monster, x.monster(monster, 1), row);
    }

    private static void torch(String when, EchoDungeon x, int torch, int fuel) {
        Check.same(when + " fuel of " + torch, x.torch(torch, 2), fuel);
        Check.same(when + " light of " + torch, x.torch(torch, 3), fuel > 0 ? 1 : 0);
    }

    /** With which loudness an action is heard in a cell: the greatest ear that hears it there. */
    private static int loudness(Supplier<EchoDungeon> maker, int action, int column, int row) {
        int greatest = 0;
        for (int ear = 1; ear <= 9; ear++) {
            EchoDungeon x = maker.get();
            x.addMonster(column, row, ear, 1);
            x.act(action);
            if (x.monster(0, 4) != EchoDungeon.NONE) {
                Check.same("a finer ear than " + ear + " hears as much", greatest, ear - 1);
                greatest = ear;
            }
        }
        return greatest;
    }

    // ---- promise 10, act: which actions are refused

    private static void promise10RefusesOtherActionsThanZeroToFifteen() {
        for (int action : NO_ACTIONS) {
            Twins.refused("act(" + action + ")", ARGUMENT, Twins::busy, x -> x.act(action));
            Twins.refused("act(" + action + ") without life", ARGUMENT, () -> {
                EchoDungeon x = Twins.busy();
                x.placeHero(0, 0, 0, 0);
                return x;
            }, x -> x.act(action));
        }
    }

    private static void promise10RefusesAllWithoutLife() {
        for (int action = 0; action < 16; action++) {
            int a = action;
            Twins.refused("act(" + a + ")", STATE, () -> {
                EchoDungeon x = amidDoors();
                x.placeHero(1, 1, 0, 9);
                return x;
            }, x -> x.act(a));
        }
        EchoDungeon x = amidDoors();
        x.placeHero(1, 1, 1, 9);
        Check.same("with a life of 1", x.act(WAIT), 1);
    }

    private static void promise10RefusesStepsOutOfTheDungeon() {
        for (int row = 0; row < 6; row++) {
            int y = row;
            Twins.refused("east from (7, " + y + ")", STATE, () -> heroAt(7, y), x -> x.act(1));
            Twins.refused("west from (0, " + y + ")", STATE, () -> heroAt(0, y), x -> x.act(3));
        }
        for (int column = 0; column < 8; column++) {
            int c = column;
            Twins.refused("north from (" + c + ", 0)", STATE, () -> heroAt(c, 0), x -> x.act(0));
            Twins.refused("south from (" + c + ", 5)", STATE, () -> heroAt(c, 5), x -> x.act(2));
        }
    }

    private static void promise10RefusesWhatHasAReason() {
        int[] due = {0, 2, 0, 2, 5, 0, 5, 4, 0, 5, 0, 4, 0, 0, 6, 0};
        reasons("amid doors", amidDoors(), due);
        for (int action = 0; action < 16; action++) {
            int a = action;
            if (due[a] == 0) {
                Check.same("act(" + a + ")", amidDoors().act(a), 5);
            } else {
                Twins.refused("act(" + a + ")", STATE, ActionBoundaryTest::amidDoors, x -> x.act(a));
            }
        }
        for (int action = 4; action < 12; action++) {
            int a = action;
            Twins.refused("act(" + a + ") without doors", STATE, () -> heroAt(1, 1), x -> x.act(a));
        }
        Twins.refused("lighting without fuel", STATE, () -> {
            EchoDungeon x = heroAt(1, 1);
            x.placeHero(0, 0, 5, 0);
            return x;
        }, x -> x.act(LIGHT));
        Twins.refused("lighting twice", STATE, () -> {
            EchoDungeon x = heroAt(1, 1);
            x.act(LIGHT);
            return x;
        }, x -> x.act(LIGHT));
    }

    // ---- promise 10: what the actions do

    private static void promise10StepsGoByOneInTheirDirection() {
        int[][] due = {{3, 2}, {4, 3}, {3, 4}, {2, 3}};
        for (int direction = 0; direction < 4; direction++) {
            EchoDungeon x = heroAt(3, 3);
            Check.same("life", x.act(direction), 5);
            Check.same("column after " + direction, x.whole(6), due[direction][0]);
            Check.same("row after " + direction, x.whole(7), due[direction][1]);
        }
    }

    /** The hero amid four doors, with three saved states, and able to do this action. */
    private static EchoDungeon readyFor(int action) {
        EchoDungeon x = amidDoors();
        for (int door = 0; door < 4; door++) {
            x.setDoor(door, action >= 4 && action < 8 ? 0 : 1);
        }
        if (action == PUT_OUT) {
            x.act(LIGHT);
        }
        x.setTrap(2, 2);
        x.undo();
        return x;
    }

    private static void promise10EveryActionIsOneTurnAndIsSaved() {
        for (int action = 0; action < 16; action++) {
            int a = action;
            EchoDungeon x = readyFor(a);
            int turns = x.whole(11);
            Check.same("act(" + a + ")", x.act(a), 5);
            Check.same("turns after " + a, x.whole(11), turns + 1);
            Check.same("undo() of " + a, x.undo(), 3);
            Twins.alike("undone " + a, x, readyFor(a));
        }
    }

    private static void promise10DoorsRememberEachPassing() {
        EchoDungeon x = amidDoors();
        x.act(0);
        Check.same("the hero", x.door(0, 3), 0);
        Check.same("once", x.door(0, 4), 1);
        x.act(SOUTH);
        Check.same("twice", x.door(0, 4), 2);
        x.act(SOUTH);
        Check.same("the other", x.door(2, 3), 0);
        Check.same("the other once", x.door(2, 4), 1);
        for (int door = 1; door < 4; door += 2) {
            Check.same("nobody passed " + door, x.door(door, 3), -1);
            Check.same("never passed " + door, x.door(door, 4), 0);
        }
        x.act(0);
        x.act(8);
        x.act(4);
        Check.same("closing and opening are no passing", x.door(0, 4), 2);
    }

    private static void promise10OpensAndClosesTheDoorInItsDirection() {
        for (int direction = 0; direction < 4; direction++) {
            EchoDungeon x = amidDoors();
            for (int door = 0; door < 4; door++) {
                x.setDoor(door, 0);
            }
            x.act(4 + direction);
            for (int door = 0; door < 4; door++) {
                Check.same("opened " + direction + ": state of " + door, x.door(door, 0), door == direction ? 1 : 0);
                x.setDoor(door, 1);
            }
            x.act(8 + direction);
            for (int door = 0; door < 4; door++) {
                Check.same("closed " + direction + ": state of " + door, x.door(door, 0), door == direction ? 0 : 1);
            }
        }
    }

    // ---- promise 10: sounds

    private static void promise10StepsAreHeardWithThreeInTheNewCell() {
        int[][] due = {{2, 0, 2}, {1, 1, 2}, {0, 0, 2}, {3, 0, 1}, {1, 2, 1}, {0, 1, 1}, {4, 0, 0}, {2, 2, 0}, {0, 2, 0}};
        for (int[] a : due) {
            Check.same("in (" + a[0] + ", " + a[1] + ")", loudness(() -> heroAt(0, 0), EAST, a[0], a[1]), a[2]);
        }
        EchoDungeon x = heroAt(0, 0);
        x.addMonster(3, 0, 1, 0);
        x.act(EAST);
        goal("the new cell", x, 0, 1, 0);
    }

    private static void promise10TrapsAreHeardWithNine() {
        Supplier<EchoDungeon> maker = () -> {
            EchoDungeon x = heroAt(0, 0);
            x.setTrap(1, 0);
            return x;
        };
        int[][] due = {{2, 0, 8}, {7, 0, 3}, {7, 1, 2}, {7, 2, 1}, {7, 3, 0}, {4, 5, 1}, {5, 5, 0}};
        for (int[] a : due) {
            Check.same("in (" + a[0] + ", " + a[1] + ")", loudness(maker, EAST, a[0], a[1]), a[2]);
        }
        EchoDungeon x = maker.get();
        x.addMonster(7, 0, 3, 0);
        x.act(EAST);
        goal("its cell", x, 0, 1, 0);
    }

    private static void promise10TrapsThatAreNotSetAreSilent() {
        Supplier<EchoDungeon> maker = () -> {
            EchoDungeon x = heroAt(0, 0);
            x.setTrap(1, 0);
            for (int n = 0; n < 2; n++) {
                x.act(EAST);
                x.act(WEST);
            }
            return x;
        };
        Check.same("the step alone", loudness(maker, EAST, 2, 0), 2);
        Check.same("the step alone, farther", loudness(maker, EAST, 4, 0), 0);
    }

    /** A cell to which the way down the first column and along the last row has so many steps. */
    private static int[] cellOff(int steps) {
        return steps <= 5 ? new int[] {0, steps} : new int[] {steps - 5, 5};
    }

    private static void promise10DoorsAreHeardWithTheirCreak() {
        for (int creak = 0; creak <= 9; creak++) {
            for (int state = 0; state <= 1; state++) {
                int loud = creak;
                int before = state;
                Supplier<EchoDungeon> maker = () -> {
                    EchoDungeon x = heroAt(0, 0);
                    x.addDoor(0, 0, 1, 0, loud);
                    x.setDoor(0, before);
                    return x;
                };
                for (int steps = 1; steps <= 9; steps++) {
                    int[] cell = cellOff(steps);
                    Check.same("creak " + creak + ", " + steps + " steps off",
                        loudness(maker, state == 0 ? OPEN_EAST : CLOSE_EAST, cell[0], cell[1]), Math.max(0, creak - steps));
                }
            }
        }
    }

    private static void promise10DoorsAreHeardInTheHerosCell() {
        for (int action = 4; action < 12; action++) {
            EchoDungeon x = dungeon(5, 5);
            x.placeHero(2, 2, 5, 0);
            int[][] doors = {{2, 1, 2}, {2, 2, 1}, {2, 2, 2}, {1, 2, 1}};
            for (int[] a : doors) {
                x.setDoor(x.addDoor(a[0], a[1], a[2], 0, 9), action < 8 ? 0 : 1);
            }
            x.addMonster(4, 4, 1, 1);
            x.act(action);
            goal("act(" + action + ")", x, 0, 2, 2);
        }
    }

    private static void promise10ASoundIsHeardThroughTheDoorAsItIsThen() {
        for (int state = 0; state <= 1; state++) {
            int before = state;
            Supplier<EchoDungeon> maker = () -> {
                EchoDungeon x = dungeon(3, 1);
                x.addDoor(0, 0, 1, 0, 9);
                x.setDoor(0, before);
                return x;
            };
            EchoDungeon x = maker.get();
            x.addMonster(2, 0, state == 0 ? 7 : 4, 1);
            x.addMonster(2, 0, state == 0 ? 8 : 5, 1);
            x.act(state == 0 ? OPEN_EAST : CLOSE_EAST);
            goal("just loud enough, from state " + state, x, 0, 0, 0);
            goal("too quiet, from state " + state, x, 1, -1, -1);
        }
    }

    private static void promise10StonesAreHeardWithSeven() {
        int[][] due = {{4, 0, 6}, {2, 0, 6}, {0, 0, 4}, {7, 0, 3}, {7, 1, 2}, {7, 2, 1}, {7, 3, 0}, {3, 5, 2}, {1, 5, 0}};
        for (int[] a : due) {
            Check.same("in (" + a[0] + ", " + a[1] + ")", loudness(() -> heroAt(0, 0), THROW, a[0], a[1]), a[2]);
        }
    }

    private static void promise10StonesFlyThreeStepsEastAtMost() {
        for (int column = 0; column < 8; column++) {
            for (int row = 0; row < 6; row++) {
                EchoDungeon x = heroAt(column, row);
                x.addMonster(column, row == 0 ? 1 : row - 1, 1, 0);
                x.act(THROW);
                goal("from (" + column + ", " + row + ")", x, 0, Math.min(column + 3, 7), row);
            }
        }
    }

    private static void promise10StonesStopWhereNothingPasses() {
        for (int steps = 0; steps <= 4; steps++) {
            for (int state = -1; state <= 2; state++) {
                EchoDungeon x = heroAt(0, 0);
                if (state < 0) {
                    x.setWall(steps, 0, 1, true);
                } else {
                    x.setDoor(x.addDoor(steps, 0, 1, 0, 0), state);
                }
                x.addMonster(0, 1, 1, 0);
                x.act(THROW);
                goal((state < 0 ? "a wall" : "a door in state " + state) + " after " + steps + " steps", x, 0,
                    state == 1 ? 3 : Math.min(steps, 3), 0);
            }
        }
    }

    private static void promise10OtherActionsMakeNoSound() {
        Supplier<EchoDungeon> lit = () -> {
            EchoDungeon x = heroAt(3, 3);
            x.act(LIGHT);
            return x;
        };
        for (int corner = 0; corner < 4; corner++) {
            int column = 2 + corner % 2 * 2;
            int row = 2 + corner / 2 * 2;
            Check.same("waiting", loudness(() -> heroAt(3, 3), WAIT, column, row), 0);
            Check.same("lighting", loudness(() -> heroAt(3, 3), LIGHT, column, row), 0);
            Check.same("putting out", loudness(lit, PUT_OUT, column, row), 0);
        }
        Check.same("putting out, in the row", loudness(lit, PUT_OUT, 2, 3), 0);
    }

    /**
     * The hero and a monster in one cell; the monster is on its way east to a stone. If it hears a
     * sound in this cell, it is in its goal and stays; if not, it goes on.
     */
    private static EchoDungeon withPassingMonster(int creak) {
        EchoDungeon x = dungeon(4, 2);
        x.addMonster(0, 0, 1, 0);
        x.act(THROW);
        x.placeHero(1, 0, 5, 9);
        x.addDoor(1, 0, 2, 0, creak);
        return x;
    }

    private static void promise10SilentActionsAreNotHeardInTheSameCell() {
        EchoDungeon x = withPassingMonster(0);
        x.act(WAIT);
        place("waiting", x, 0, 2, 0);
        goal("waiting", x, 0, 3, 0);
        for (int creak = 0; creak <= 2; creak++) {
            for (int action = 6; action <= 10; action += 4) {
                x = withPassingMonster(creak);
                x.setDoor(0, action == 6 ? 0 : 1);
                x.act(action);
                place("action " + action + ", creak " + creak, x, 0, creak == 0 ? 2 : 1, 0);
                goal("action " + action + ", creak " + creak, x, 0, creak == 0 ? 3 : -1, creak == 0 ? 0 : -1);
            }
        }
        x = withPassingMonster(0);
        x.act(LIGHT);
        place("seen by the light", x, 0, 1, 0);
        x.undo();
        x.placeHero(1, 0, 5, 1);
        x.act(LIGHT);
        place("a light that goes out at once", x, 0, 2, 0);
    }

    private static void promise10SoundsGoThroughWalls() {
        EchoDungeon x = dungeon(5, 1);
        x.setWall(3, 0, 1, true);
        x.setTrap(3, 0);
        x.placeHero(2, 0, 5, 0);
        x.addMonster(4, 0, 2, 0);
        x.addMonster(4, 0, 3, 0);
        x.addMonster(1, 0, 7, 0);
        x.addMonster(1, 0, 8, 0);
        x.act(EAST);
        goal("no way behind the wall", x, 0, -1, -1);
        goal("9 less 2", x, 2, 3, 0);
        goal("less than 8", x, 3, -1, -1);
        for (int ear = 2; ear <= 3; ear++) {
            x = dungeon(5, 6);
            for (int row = 0; row < 5; row++) {
                x.setWall(3, row, 1, true);
            }
            x.setTrap(3, 0);
            x.placeHero(2, 0, 5, 0);
            x.addMonster(4, 0, ear, 0);
            x.act(EAST);
            goal("9 less 7, ear " + ear, x, 0, ear == 2 ? 3 : -1, ear == 2 ? 0 : -1);
        }
    }

    // ---- promise 10, (1): traps

    private static void promise10TrapsAreSprungTwice() {
        EchoDungeon x = dungeon(2, 1);
        x.setTrap(1, 0);
        int[][] due = {{4, 1, 1}, {3, 0, 2}, {3, 0, 2}, {3, 0, 2}};
        for (int n = 0; n < due.length; n++) {
            Check.same("life, time " + n, x.act(EAST), due[n][0]);
            Check.same("set, time " + n, x.trap(0, 2), due[n][1]);
            Check.same("sprung, time " + n, x.trap(0, 3), due[n][2]);
            Check.same("away from it, time " + n, x.act(WEST), due[n][0]);
        }
    }

    private static void promise10OnlyAStepOntoTheTrapSpringsIt() {
        EchoDungeon x = amidDoors();
        x.setTrap(1, 1);
        x.setTrap(2, 2);
        for (int action : new int[] {WAIT, LIGHT, PUT_OUT, THROW, OPEN_EAST, CLOSE_EAST, 8, 4, 0}) {
            Check.same("life after " + action, x.act(action), 5);
            Check.same("set after " + action, x.trap(0, 2), 2);
        }
        Check.same("onto it", x.act(SOUTH), 4);
        Check.same("set", x.trap(0, 2), 1);
        Check.same("the other one", x.trap(1, 2), 2);
        Check.same("sprung", x.trap(0, 3), 1);
        Check.same("the other one was not sprung", x.trap(1, 3), 0);
    }

    private static void promise10TrapsTakeTheLastLife() {
        for (int life = 1; life <= 9; life++) {
            EchoDungeon x = dungeon(2, 1);
            x.setTrap(1, 0);
            x.placeHero(0, 0, life, 0);
            Check.same("of " + life, x.act(EAST), life - 1);
            Check.same("whole(8)", x.whole(8), life - 1);
        }
    }

    // ---- promise 10, (2): torches

    private static void promise10TheHerosTorchBurnsDown() {
        for (int fuel : new int[] {1, 2, 3, 99}) {
            EchoDungeon x = dungeon(2, 1);
            x.placeHero(0, 0, 9, fuel);
            x.act(WAIT);
            Check.same("not lit", x.whole(9), fuel);
            x.act(LIGHT);
            for (int turns = 1; turns <= fuel + 1; turns++) {
                int left = Math.max(0, fuel - turns);
                Check.same(fuel + " after " + turns, x.whole(9), left);
                Check.same("lit: " + fuel + " after " + turns, x.whole(10), left > 0 ? 1 : 0);
                x.act(WAIT);
            }
        }
    }

    private static void promise10PuttingOutBurnsNothing() {
        for (int fuel = 2; fuel <= 3; fuel++) {
            EchoDungeon x = dungeon(2, 1);
            x.placeHero(0, 0, 9, fuel);
            x.act(LIGHT);
            x.act(PUT_OUT);
            Check.same("fuel", x.whole(9), fuel - 1);
            Check.same("not lit", x.whole(10), 0);
            x.act(WAIT);
            Check.same("fuel later", x.whole(9), fuel - 1);
        }
    }

    private static void promise10StandingTorchesBurnDown() {
        EchoDungeon x = dungeon(8, 6);
        int[] fuels = {0, 1, 2, 3, 50, 99};
        for (int fuel : fuels) {
            x.addTorch(7, 5, fuel);
        }
        for (int turns = 1; turns <= 4; turns++) {
            x.act(WAIT);
            for (int n = 0; n < 6; n++) {
                torch("after " + turns, x, n, Math.max(0, fuels[n] - turns));
            }
        }
    }

    // ---- promise 10, (3): goals

    private static void promise10TorchesGoOutBeforeMonstersLook() {
        for (int fuel = 1; fuel <= 2; fuel++) {
            EchoDungeon x = dungeon(8, 1);
            x.addMonster(7, 0, 9, 0);
            x.placeHero(0, 0, 5, fuel);
            x.act(LIGHT);
            goal("the hero's torch with " + fuel, x, 0, fuel == 2 ? 0 : -1, fuel == 2 ? 0 : -1);
            x = dungeon(8, 1);
            x.addMonster(7, 0, 9, 0);
            x.addTorch(0, 0, fuel);
            x.act(WAIT);
            goal("a standing torch with " + fuel, x, 0, fuel == 2 ? 0 : -1, fuel == 2 ? 0 : -1);
        }
    }

    private static void promise10MonstersSeeTheHeroWithinTheLight() {
        for (int column = 0; column < 8; column++) {
            EchoDungeon x = dungeon(8, 1);
            x.addMonster(7, 0, 9, 0);
            x.addTorch(column, 0, 9);
            x.act(WAIT);
            goal("a torch " + column + " steps off", x, 0, column <= 3 ? 0 : -1, column <= 3 ? 0 : -1);
        }
    }

    private static void promise10MonstersLookAfterTheStep() {
        for (int action = 0; action < 4; action++) {
            EchoDungeon x = heroAt(3, 3);
            x.addTorch(3, 3, 9);
            x.addMonster(7, 2, 9, 0);
            x.addMonster(0, 4, 9, 0);
            x.addMonster(4, 0, 9, 0);
            x.addMonster(2, 0, 9, 0);
            x.addMonster(7, 3, 9, 0);
            x.act(action);
            int[] sees = {0, 2, 1, 3};
            for (int n = 0; n < 4; n++) {
                boolean isIt = sees[action] == n;
                goal("after " + action, x, n, isIt ? x.whole(6) : -1, isIt ? x.whole(7) : -1);
            }
            boolean inRow = action % 2 == 1;
            goal("in the old row after " + action, x, 4, inRow ? x.whole(6) : -1, inRow ? x.whole(7) : -1);
        }
    }

    private static void promise10SightIsStrongerThanSound() {
        EchoDungeon x = dungeon(8, 2);
        x.addTorch(0, 0, 9);
        x.addMonster(5, 0, 1, 0);
        x.addMonster(5, 1, 1, 0);
        x.addMonster(6, 0, 9, 0);
        x.act(THROW);
        goal("sees and hears", x, 0, 0, 0);
        goal("hears alone", x, 1, 3, 0);
        goal("sees alone", x, 2, 0, 0);
    }

    private static void promise10AGoalStaysWithoutASoundThatIsHeard() {
        EchoDungeon x = heroAt(0, 0);
        x.addMonster(7, 1, 2, 0);
        x.act(THROW);
        goal("the stone", x, 0, 3, 0);
        x.act(WAIT);
        goal("no sound", x, 0, 3, 0);
        x.act(EAST);
        goal("a sound that is too quiet", x, 0, 3, 0);
        x.act(THROW);
        goal("a sound that is heard", x, 0, 4, 0);
    }

    private static void promise10AQuieterSoundOfALaterTurnIsTheGoal() {
        EchoDungeon x = heroAt(0, 0);
        x.addMonster(4, 3, 1, 0);
        x.act(THROW);
        goal("with 3", x, 0, 3, 0);
        x.act(EAST);
        goal("not heard", x, 0, 3, 0);
        x.placeHero(5, 1, 5, 0);
        x.act(SOUTH);
        goal("with 1", x, 0, 5, 2);
    }

    // ---- promise 10, (4): ways

    private static void promise10MonstersWithoutAGoalStay() {
        EchoDungeon x = heroAt(0, 0);
        for (int n = 0; n < 6; n++) {
            x.addMonster(n + 1, n, 9, n % 2);
        }
        x.act(WAIT);
        for (int n = 0; n < 6; n++) {
            place("waiting", x, n, n + 1, n);
            goal("waiting", x, n, -1, -1);
        }
    }

    private static void promise10AGoalEndsWhenTheMonsterActsInIt() {
        EchoDungeon x = dungeon(8, 2);
        x.addMonster(4, 0, 1, 0);
        x.addMonster(3, 0, 1, 0);
        x.act(THROW);
        place("one step", x, 0, 3, 0);
        goal("come to it", x, 0, 3, 0);
        goal("in it already", x, 1, -1, -1);
        x.act(WAIT);
        goal("one turn later", x, 0, -1, -1);
        place("it stays", x, 0, 3, 0);
    }

    private static void promise10AGoalWithoutAWayEnds() {
        for (int kind = 0; kind <= 1; kind++) {
            for (int state = -1; state <= 2; state++) {
                EchoDungeon x = dungeon(5, 1);
                x.addMonster(4, 0, 1, kind);
                if (state < 0) {
                    x.setWall(3, 0, 1, true);
                } else {
                    x.setDoor(x.addDoor(3, 0, 1, 0, 0), state);
                }
                x.placeHero(3, 0, 5, 0);
                x.setTrap(2, 0);
                x.act(WEST);
                String when = "kind " + kind + ", border " + state;
                boolean hasWay = state == 1 || state == 0 && kind == 1;
                goal(when, x, 0, hasWay ? 2 : -1, hasWay ? 0 : -1);
                place(when, x, 0, state == 1 ? 3 : 4, 0);
                Check.same(when + " border", x.border(3, 0, 1), state < 0 ? 1 : 2);
                if (state >= 0) {
                    Check.same(when + " door", x.door(0, 0), state == 2 || !hasWay ? state : 1);
                }
            }
        }
    }

    private static void promise10OfSeveralWaysTheLowestFirstDirectionCounts() {
        int[][] corners = {{1, 3, 1, 2}, {1, 1, 2, 1}, {3, 1, 3, 2}, {3, 3, 3, 2}};
        for (int[] a : corners) {
            EchoDungeon x = dungeon(5, 5);
            x.placeHero(2, 1, 5, 0);
            x.addMonster(a[0], a[1], 1, 0);
            x.act(SOUTH);
            goal("from (" + a[0] + ", " + a[1] + ")", x, 0, 2, 2);
            place("from (" + a[0] + ", " + a[1] + ")", x, 0, a[2], a[3]);
        }
        int[][] walls = {{1, 2, 1, 1, 2, 1, 1}, {2, 2, 1, 3, 2, 3, 1}, {2, 1, 2, 2, 1, 3, 1}};
        for (int[] a : walls) {
            EchoDungeon x = dungeon(5, 5);
            x.setWall(a[0], a[1], a[2], true);
            x.setTrap(2, 2);
            x.placeHero(2, 3, 5, 0);
            x.addMonster(a[3], a[4], 1, 0);
            x.act(0);
            place("around a wall, from (" + a[3] + ", " + a[4] + ")", x, 0, a[5], a[6]);
        }
    }

    private static void promise10AClosedDoorCostsTwo() {
        EchoDungeon x = dungeon(2, 2);
        x.addDoor(0, 0, 1, 0, 9);
        x.setDoor(0, 1);
        x.addMonster(1, 0, 3, 1);
        x.act(CLOSE_EAST);
        goal("one door", x, 0, 0, 0);
        place("2 are fewer than 3", x, 0, 1, 0);
        Check.same("it opened the door", x.door(0, 0), 1);
        x = dungeon(3, 2);
        x.addDoor(0, 0, 1, 0, 9);
        x.addDoor(1, 0, 1, 0, 0);
        x.setDoor(0, 1);
        x.addMonster(2, 0, 1, 1);
        x.act(CLOSE_EAST);
        goal("two doors", x, 0, 0, 0);
        place("4 are as many as 4: south before west", x, 0, 2, 1);
        Check.same("it opened no door", x.door(1, 0), 0);
    }

    private static void promise10ALockedDoorIsNoWay() {
        EchoDungeon x = dungeon(2, 2);
        x.addDoor(0, 0, 1, 0, 9);
        x.addDoor(0, 0, 2, 0, 9);
        x.setDoor(0, 2);
        x.setDoor(1, 1);
        x.addMonster(1, 0, 3, 1);
        x.act(10);
        goal("around it", x, 0, 0, 0);
        place("around it", x, 0, 1, 1);
        Check.same("still locked", x.door(0, 0), 2);
    }

    private static EchoDungeon monsterAtDoor(int spring) {
        EchoDungeon x = dungeon(4, 1);
        x.addDoor(2, 0, 1, spring, 0);
        x.addMonster(3, 0, 1, 1);
        x.act(THROW);
        return x;
    }

    private static void promise10AMonsterOpensADoorAndStays() {
        for (int spring = 0; spring <= 9; spring++) {
            EchoDungeon x = monsterAtDoor(spring);
            goal("spring " + spring, x, 0, 2, 0);
            place("spring " + spring, x, 0, 3, 0);
            Check.same("state, spring " + spring, x.door(0, 0), spring == 1 ? 0 : 1);
            Check.same("turns left, spring " + spring, x.door(0, 5), Math.max(0, spring - 1));
            Check.same("nobody passed", x.door(0, 3), -1);
            Check.same("never passed", x.door(0, 4), 0);
            x.act(WAIT);
            place("the next turn, spring " + spring, x, 0, spring == 1 ? 3 : 2, 0);
            Check.same("then passed, spring " + spring, x.door(0, 4), spring == 1 ? 0 : 1);
            Check.same("then state, spring " + spring, x.door(0, 0), spring == 0 || spring > 2 ? 1 : 0);
            Check.same("then turns left, spring " + spring, x.door(0, 5), Math.max(0, spring - 2));
        }
    }

    private static void promise10AMonsterThatOpensADoorMakesNoSound() {
        EchoDungeon x = dungeon(4, 2);
        x.addDoor(2, 0, 1, 0, 9);
        x.addMonster(3, 0, 1, 1);
        x.setWall(3, 0, 2, true);
        x.act(THROW);
        Check.same("opened", x.door(0, 0), 1);
        x.addMonster(3, 1, 1, 0);
        x.act(WAIT);
        goal("after it", x, 1, -1, -1);
    }

    private static void promise10MonstersActByAscendingNumbers() {
        EchoDungeon x = dungeon(4, 1);
        x.addDoor(2, 0, 1, 0, 0);
        for (int n = 0; n < 6; n++) {
            x.addMonster(3, 0, 1, n == 2 ? 1 : 0);
        }
        x.act(THROW);
        for (int n = 0; n < 6; n++) {
            place("one opens", x, n, n <= 2 ? 3 : 2, 0);
            goal("one opens", x, n, n < 2 ? -1 : 2, n < 2 ? -1 : 0);
        }
        Check.same("who passed last", x.door(0, 3), 6);
        Check.same("how often", x.door(0, 4), 3);
        x.act(WAIT);
        place("it passes", x, 2, 2, 0);
        Check.same("who passed last then", x.door(0, 3), 3);
        Check.same("how often then", x.door(0, 4), 4);
        x = dungeon(5, 1);
        x.setDoor(x.addDoor(3, 0, 1, 0, 0), 1);
        x.addMonster(4, 0, 1, 0);
        x.act(THROW);
        Check.same("the monster 0", x.door(0, 3), 1);
    }

    // ---- promise 10, (5): the hero is hurt

    private static void promise10EachMonsterInTheCellHurts() {
        for (int life = 1; life <= 9; life++) {
            for (int monsters = 0; monsters <= 6; monsters++) {
                EchoDungeon x = dungeon(3, 3);
                x.placeHero(1, 1, life, 0);
                for (int n = 0; n < monsters; n++) {
                    x.addMonster(1, 1, 9, 0);
                }
                int left = Math.max(0, life - monsters);
                Check.same("life of " + life + " with " + monsters, x.act(WAIT), left);
                Check.same("whole(8)", x.whole(8), left);
                for (int n = 0; n < monsters; n++) {
                    Check.same("the monster " + n + " hurt " + life, x.monster(n, 7), 1);
                }
            }
        }
    }

    private static void promise10MonstersBesideDoNotHurt() {
        EchoDungeon x = dungeon(3, 3);
        x.placeHero(1, 1, 5, 0);
        int[][] cells = {{1, 0}, {2, 1}, {1, 2}, {0, 1}, {0, 0}, {2, 2}};
        for (int[] a : cells) {
            x.addMonster(a[0], a[1], 9, 0);
        }
        Check.same("life", x.act(WAIT), 5);
        for (int n = 0; n < 6; n++) {
            Check.same("the monster " + n, x.monster(n, 7), 0);
        }
    }

    private static void promise10MonstersHurtAfterTheTrapAndBelowNoLife() {
        EchoDungeon x = dungeon(2, 1);
        x.setTrap(1, 0);
        x.placeHero(0, 0, 1, 0);
        x.addMonster(1, 0, 9, 0);
        Check.same("life", x.act(EAST), 0);
        Check.same("hurt at a life of 0", x.monster(0, 7), 1);
        Check.same("sprung", x.trap(0, 3), 1);
    }

    // ---- promise 10, (6): springs

    private static void promise10AnOpenedDoorClosesByItself() {
        for (int spring = 0; spring <= 9; spring++) {
            EchoDungeon x = dungeon(2, 1);
            x.addDoor(0, 0, 1, spring, 0);
            x.act(OPEN_EAST);
            for (int turns = 1; turns <= 11; turns++) {
                boolean open = spring == 0 || turns < spring;
                Check.same("spring " + spring + " after " + turns, x.door(0, 0), open ? 1 : 0);
                Check.same("left of " + spring + " after " + turns, x.door(0, 5), Math.max(0, spring - turns));
                x.act(WAIT);
            }
        }
    }

    private static void promise10ADoorThatWasSetOpenClosesByItself() {
        for (int spring = 0; spring <= 9; spring++) {
            EchoDungeon x = dungeon(2, 1);
            x.addDoor(0, 0, 1, spring, 0);
            x.setDoor(0, 1);
            for (int turns = 1; turns <= 10; turns++) {
                x.act(WAIT);
                boolean open = spring == 0 || turns < spring;
                Check.same("spring " + spring + " after " + turns, x.door(0, 0), open ? 1 : 0);
                Check.same("left of " + spring + " after " + turns, x.door(0, 5), Math.max(0, spring - turns));
            }
        }
    }

    private static void promise10ClosedAndLockedDoorsStay() {
        for (int state = 0; state <= 2; state += 2) {
            for (int spring = 0; spring <= 9; spring++) {
                EchoDungeon x = dungeon(2, 1);
                x.addDoor(0, 0, 1, spring, 0);
                x.setDoor(0, 1);
                x.setDoor(0, state);
                x.act(WAIT);
                Check.same("state " + state + ", spring " + spring, x.door(0, 0), state);
                Check.same("left in state " + state + ", spring " + spring, x.door(0, 5), 0);
            }
        }
        EchoDungeon x = dungeon(2, 1);
        x.addDoor(0, 0, 1, 9, 0);
        x.act(OPEN_EAST);
        x.act(CLOSE_EAST);
        Check.same("closed by hand", x.door(0, 5), 0);
        x.act(OPEN_EAST);
        Check.same("opened again", x.door(0, 5), 8);
    }

    private static void promise10HoldsToTheLastCallOfAnObject() {
        EchoDungeon x = new EchoDungeon();
        for (int call = 1; call <= 510; call++) {
            x.act(WAIT);
        }
        Check.same("the 511th call", x.whole(11), 510);
        Check.same("the 512th call", x.undo(), 3);
    }

    // ---- promise 11, reason

    private static void promise11RefusesOtherActionsThanZeroToFifteen() {
        for (int action : NO_ACTIONS) {
            Twins.refused("reason(" + action + ")", ARGUMENT, Twins::busy, x -> x.reason(action));
        }
    }

    private static void promise11ChangesNothing() {
        for (int action = 0; action < 16; action++) {
            int a = action;
            Twins.onlyAsked("reason(" + a + ")", Twins::busy, x -> x.reason(a));
        }
    }

    private static void promise11TellsWhereTheDungeonEnds() {
        for (int column = 0; column < 8; column++) {
            for (int row = 0; row < 6; row++) {
                EchoDungeon x = heroAt(column, row);
                int north = row == 0 ? 2 : 0;
                int east = column == 7 ? 2 : 0;
                int south = row == 5 ? 2 : 0;
                int west = column == 0 ? 2 : 0;
                reasons("at (" + column + ", " + row + ")", x, north, east, south, west,
                    3, 3, 3, 3, 3, 3, 3, 3, 0, 0, 6, 0);
            }
        }
    }

    private static void promise11TellsWhatTheBorderForbids() {
        int[][] cells = {{1, 0, 2}, {1, 1, 1}, {1, 1, 2}, {0, 1, 1}};
        for (int direction = 0; direction < 4; direction++) {
            int[] cell = cells[direction];
            EchoDungeon x = dungeon(3, 3);
            x.placeHero(1, 1, 5, 20);
            x.setWall(cell[0], cell[1], cell[2], true);
            three("a wall", x, direction, 2, 3, 3);
            x.addDoor(cell[0], cell[1], cell[2], 0, 0);
            three("a closed door", x, direction, 2, 0, 5);
            x.setDoor(0, 1);
            three("an open door", x, direction, 0, 5, 0);
            x.setDoor(0, 2);
            three("a locked door", x, direction, 2, 4, 4);
        }
    }

    /** The reasons against a step, opening and closing in a direction; the other directions are free. */
    private static void three(String when, EchoDungeon x, int direction, int step, int open, int close) {
        for (int other = 0; other < 4; other++) {
            boolean isIt = other == direction;
            Check.same(when + ": step " + other, x.reason(other), isIt ? step : 0);
            Check.same(when + ": open " + other, x.reason(4 + other), isIt ? open : 3);
            Check.same(when + ": close " + other, x.reason(8 + other), isIt ? close : 3);
        }
    }

    private static void promise11TellsAboutTheTorch() {
        for (int fuel : new int[] {0, 1, 2, 99}) {
            EchoDungeon x = new EchoDungeon();
            x.placeHero(0, 0, 5, fuel);
            Check.same("light with the fuel " + fuel, x.reason(LIGHT), fuel > 0 ? 0 : 6);
            Check.same("put out with the fuel " + fuel, x.reason(PUT_OUT), 6);
            if (fuel > 0) {
                x.act(LIGHT);
                Check.same("lit: light, fuel " + fuel, x.reason(LIGHT), 6);
                Check.same("lit: put out, fuel " + fuel, x.reason(PUT_OUT), fuel > 1 ? 0 : 6);
            }
        }
    }

    private static void promise11TellsNoLifeFirst() {
        EchoDungeon x = amidDoors();
        x.placeHero(1, 1, 0, 0);
        reasons("without life", x, 1, 1, 1, 1, 1, 1, 1, 1, 1, 1, 1, 1, 1, 1, 1, 1);
        x.placeHero(1, 1, 1, 0);
        reasons("with a life of 1", x, 0, 2, 0, 2, 5, 0, 5, 4, 0, 5, 0, 4, 0, 6, 6, 0);
    }

    public static void main(String[] args) {
        Check.promises(10, 11, ActionBoundaryTest.class);
    }
}
