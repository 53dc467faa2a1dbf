import java.util.function.Consumer;

/** Promises 12 to 18 at their boundaries: the values, light, and what a monster sees. */
public final class ValuesBoundaryTest {
    private static final Class<IndexOutOfBoundsException> BOUNDS = Check.BOUNDS;
    private static final Class<IllegalArgumentException> ARGUMENT = Check.ARGUMENT;
    private static final int LEAST = Integer.MIN_VALUE;
    private static final int MOST = Integer.MAX_VALUE;
    // What a border can be: a wall, or a door in one of its three states, 0 to 2.
    private static final int WALL = -1;
    private static final int OPEN = 1;
    private static final int LOCKED = 2;

    private static EchoDungeon dungeon(int columns, int rows) {
        EchoDungeon x = new EchoDungeon();
        x.begin(columns, rows);
        return x;
    }

    private static void putBorder(EchoDungeon x, int column, int row, int side, int border) {
        if (border == WALL) {
            x.setWall(column, row, side, true);
        } else {
            x.setDoor(x.addDoor(column, row, side, 0, 0), border);
        }
    }

    private static void values(String what, int[] got, int... due) {
        for (int n = 0; n < due.length; n++) {
            Check.same(what + ", value " + n, got[n], due[n]);
        }
    }

    private static int[] doorOf(EchoDungeon x, int door) {
        int[] values = new int[6];
        for (int what = 0; what < 6; what++) {
            values[what] = x.door(door, what);
        }
        return values;
    }

    private static int[] torchOf(EchoDungeon x, int torch) {
        return new int[] {x.torch(torch, 0), x.torch(torch, 1), x.torch(torch, 2), x.torch(torch, 3)};
    }

    private static int[] monsterOf(EchoDungeon x, int monster) {
        int[] values = new int[8];
        for (int what = 0; what < 8; what++) {
            values[what] = x.monster(monster, what);
        }
        return values;
    }

    private static int[] trapOf(EchoDungeon x, int trap) {
        return new int[] {x.trap(trap, 0), x.trap(trap, 1), x.trap(trap, 2), x.trap(trap, 3)};
    }

    private static void refused(String what, Class<? extends RuntimeException> due, Consumer<EchoDungeon> call) {
        Twins.refused(what, due, Twins::busy, call);
    }

    private static void asked(String what, Consumer<EchoDungeon> call) {
        Twins.onlyAsked(what, Twins::busy, call);
        Twins.onlyAsked(what + " of a full one", Twins::full, call);
    }

    // ---- promise 12, border

    private static void promise12RefusesCellsOutside() {
        for (int[] a : Twins.NO_CELLS) {
            refused("border(" + a[0] + ", " + a[1] + ")", BOUNDS, x -> x.border(a[0], a[1], 0));
            refused("with a wrong direction, too", BOUNDS, x -> x.border(a[0], a[1], 4));
        }
    }

    private static void promise12RefusesOtherDirectionsThanZeroToThree() {
        for (int direction : new int[] {-1, 4, LEAST, MOST}) {
            refused("direction " + direction, ARGUMENT, x -> x.border(5, 3, direction));
        }
        for (int direction = 0; direction < 4; direction++) {
            int d = direction;
            asked("direction " + d, x -> x.border(2, 1, d));
        }
    }

    private static void promise12NumbersTheDoorsFromTwo() {
        EchoDungeon x = dungeon(8, 2);
        for (int door = 0; door < 10; door++) {
            x.addDoor(door % 7, door / 7, 1, 0, 0);
        }
        for (int door = 0; door < 10; door++) {
            Check.same("from the west", x.border(door % 7, door / 7, 1), 2 + door);
            Check.same("from the east", x.border(door % 7 + 1, door / 7, 3), 2 + door);
            x.setDoor(door, door % 3);
            Check.same("in state " + door % 3, x.border(door % 7, door / 7, 1), 2 + door);
        }
        x.addMonster(0, 0, 9, 0);
        Check.same("free", x.border(0, 0, 2), 0);
    }

    private static void promise12HasWallsAroundOnly() {
        EchoDungeon x = dungeon(8, 6);
        for (int cell = 0; cell < 48; cell++) {
            int column = cell % 8;
            int row = cell / 8;
            Check.same("north of " + cell, x.border(column, row, 0), row == 0 ? 1 : 0);
            Check.same("east of " + cell, x.border(column, row, 1), column == 7 ? 1 : 0);
            Check.same("south of " + cell, x.border(column, row, 2), row == 5 ? 1 : 0);
            Check.same("west of " + cell, x.border(column, row, 3), column == 0 ? 1 : 0);
        }
    }

    // ---- promise 13, cell

    private static void promise13RefusesCellsOutside() {
        for (int[] a : Twins.NO_CELLS) {
            refused("cell(" + a[0] + ", " + a[1] + ")", BOUNDS, x -> x.cell(a[0], a[1], 2));
            refused("with a wrong value, too", BOUNDS, x -> x.cell(a[0], a[1], 4));
        }
    }

    private static void promise13RefusesOtherValuesThanZeroToThree() {
        for (int what : new int[] {-1, 4, LEAST, MOST}) {
            refused("value " + what, ARGUMENT, x -> x.cell(5, 3, what));
        }
        for (int what = 0; what < 4; what++) {
            int w = what;
            asked("value " + w, x -> x.cell(1, 0, w));
        }
    }

    private static void promise13CountsWhatIsInTheCell() {
        EchoDungeon x = dungeon(8, 6);
        for (int n = 0; n < 6; n++) {
            Check.same("monsters " + n, x.cell(7, 5, 1), (1 << n) - 1);
            Check.same("torches " + n, x.cell(7, 5, 3), n);
            x.addMonster(7, 5, 9, 0);
            x.addTorch(7, 5, n % 2);
            Check.same("no trap yet", x.cell(n, n % 2, 2), -1);
            x.setTrap(n, n % 2);
            Check.same("the trap " + n, x.cell(n, n % 2, 2), n);
        }
        Check.same("all monsters", x.cell(7, 5, 1), 63);
        Check.same("all torches", x.cell(7, 5, 3), 6);
        Check.same("no trap there", x.cell(7, 5, 2), -1);
        Check.same("no monster in a trap's cell", x.cell(5, 1, 1), 0);
        Check.same("no torch in a trap's cell", x.cell(5, 1, 3), 0);
        Check.same("a trap that is not set is there, too", sprungTwice().cell(1, 0, 2), 0);
    }

    private static EchoDungeon sprungTwice() {
        EchoDungeon x = dungeon(2, 1);
        x.setTrap(1, 0);
        x.act(1);
        x.act(3);
        x.act(1);
        return x;
    }

    /** Compares the light of all cells with the steps from one cell, in a dungeon of free borders. */
    private static void light(String when, EchoDungeon x, int column, int row, int reach) {
        int lit = 0;
        for (int cell = 0; cell < 48; cell++) {
            int steps = Math.abs(cell % 8 - column) + Math.abs(cell / 8 - row);
            int due = steps <= reach ? 1 : 0;
            lit += due;
            Check.same(when + ", cell " + cell, x.cell(cell % 8, cell / 8, 0), due);
        }
        Check.same(when + ", lit cells", x.whole(12), lit);
    }

    private static void promise13StandingTorchesReachThreeSteps() {
        for (int cell = 0; cell < 48; cell++) {
            EchoDungeon x = dungeon(8, 6);
            x.addTorch(cell % 8, cell / 8, 1);
            light("a torch in " + cell, x, cell % 8, cell / 8, 3);
            x.act(12);
            light("out in " + cell, x, cell % 8, cell / 8, -1);
        }
    }

    private static void promise13TheHerosTorchReachesTwoSteps() {
        for (int cell = 0; cell < 48; cell++) {
            EchoDungeon x = dungeon(8, 6);
            x.placeHero(cell % 8, cell / 8, 5, 2);
            light("not lit in " + cell, x, cell % 8, cell / 8, -1);
            x.act(13);
            light("the hero in " + cell, x, cell % 8, cell / 8, 2);
            x.act(12);
            light("out in " + cell, x, cell % 8, cell / 8, -1);
        }
    }

    private static void promise13LightGoesOnlyWhereOneCanPass() {
        for (int border = WALL; border <= LOCKED; border++) {
            for (int steps = 0; steps <= 3; steps++) {
                EchoDungeon x = dungeon(8, 1);
                x.addTorch(0, 0, 9);
                putBorder(x, steps, 0, 1, border);
                int last = border == OPEN ? 3 : Math.min(steps, 3);
                for (int column = 0; column < 8; column++) {
                    Check.same("border " + border + " after " + steps + ", column " + column,
                        x.cell(column, 0, 0), column <= last ? 1 : 0);
                }
                x = dungeon(8, 1);
                x.act(13);
                putBorder(x, steps, 0, 1, border);
                last = border == OPEN ? 2 : Math.min(steps, 2);
                for (int column = 0; column < 8; column++) {
                    Check.same("the hero's, border " + border + " after " + steps + ", column " + column,
                        x.cell(column, 0, 0), column <= last ? 1 : 0);
                }
            }
        }
    }

    private static void promise13LightGoesAroundCorners() {
        EchoDungeon x = dungeon(4, 4);
        x.setWall(0, 0, 1, true);
        x.addTorch(0, 0, 9);
        Check.same("three steps around the wall", x.cell(1, 0, 0), 1);
        Check.same("four steps around it", x.cell(2, 0, 0), 0);
        x.placeHero(3, 3, 5, 9);
        x.setWall(2, 3, 1, true);
        x.act(13);
        Check.same("the hero's, two steps", x.cell(2, 2, 0), 1);
        Check.same("the hero's, three steps around the wall", x.cell(2, 3, 0), 0);
    }

    private static void promise13LightsDoNotAddUp() {
        EchoDungeon x = dungeon(8, 1);
        x.addTorch(0, 0, 9);
        x.addTorch(0, 0, 9);
        x.placeHero(1, 0, 5, 9);
        x.act(13);
        Check.same("three steps", x.cell(3, 0, 0), 1);
        Check.same("four steps from two torches, three from the hero", x.cell(4, 0, 0), 0);
        Check.same("each cell counts once", x.whole(12), 4);
        x.placeHero(2, 0, 5, 9);
        Check.same("two steps from the hero", x.cell(4, 0, 0), 1);
        Check.same("lit cells then", x.whole(12), 5);
    }

    // ---- promise 14, door

    private static void promise14RefusesNumbersWithoutADoor() {
        for (int door : new int[] {-1, 2, 10, LEAST, MOST}) {
            refused("door " + door, BOUNDS, x -> x.door(door, 0));
            refused("door " + door + " with a wrong value, too", BOUNDS, x -> x.door(door, 6));
        }
        Twins.refused("the first of none", BOUNDS, EchoDungeon::new, x -> x.door(0, 0));
        Twins.refused("the eleventh", BOUNDS, Twins::full, x -> x.door(10, 0));
        values("the tenth", doorOf(Twins.full(), 9), 0, 9, 0, -1, 0, 0);
    }

    private static void promise14RefusesOtherValuesThanZeroToFive() {
        for (int what : new int[] {-1, 6, LEAST, MOST}) {
            refused("value " + what, ARGUMENT, x -> x.door(1, what));
        }
        for (int what = 0; what < 6; what++) {
            int w = what;
            asked("value " + w, x -> x.door(1, w));
        }
    }

    private static void promise14TellsWhoPassedLast() {
        EchoDungeon x = dungeon(4, 1);
        x.addDoor(1, 0, 1, 9, 8);
        values("new", doorOf(x, 0), 0, 9, 8, -1, 0, 0);
        x.setDoor(0, 1);
        values("open", doorOf(x, 0), 1, 9, 8, -1, 0, 9);
        x.placeHero(1, 0, 9, 0);
        x.act(1);
        values("the hero", doorOf(x, 0), 1, 9, 8, 0, 1, 8);
        for (int n = 0; n < 5; n++) {
            x.addMonster(0, 0, 9, 0);
        }
        x.addMonster(1, 0, 1, 0);
        x.act(1);
        values("the monster 5", doorOf(x, 0), 1, 9, 8, 6, 2, 7);
        x.setDoor(0, 2);
        values("locked", doorOf(x, 0), 2, 9, 8, 6, 2, 0);
        x.undo();
        x.undo();
        values("undone", doorOf(x, 0), 1, 9, 8, 0, 1, 8);
    }

    private static void promise14HasNoTurnsLeftWithoutASpring() {
        for (int state = 0; state <= 2; state++) {
            EchoDungeon x = new EchoDungeon();
            x.addDoor(0, 0, 1, 0, 0);
            x.setDoor(0, state);
            Check.same("state " + state, x.door(0, 5), 0);
        }
    }

    // ---- promise 15, torch

    private static void promise15RefusesNumbersWithoutATorch() {
        for (int torch : new int[] {-1, 2, 6, LEAST, MOST}) {
            refused("torch " + torch, BOUNDS, x -> x.torch(torch, 0));
            refused("torch " + torch + " with a wrong value, too", BOUNDS, x -> x.torch(torch, 4));
        }
        Twins.refused("the first of none", BOUNDS, EchoDungeon::new, x -> x.torch(0, 0));
        Twins.refused("the seventh", BOUNDS, Twins::full, x -> x.torch(6, 0));
        values("the sixth", torchOf(Twins.full(), 5), 5, 0, 13, 1);
    }

    private static void promise15RefusesOtherValuesThanZeroToThree() {
        for (int what : new int[] {-1, 4, LEAST, MOST}) {
            refused("value " + what, ARGUMENT, x -> x.torch(1, what));
        }
        for (int what = 0; what < 4; what++) {
            int w = what;
            asked("value " + w, x -> x.torch(1, w));
        }
    }

    private static void promise15IsLitWhileItHasFuel() {
        EchoDungeon x = dungeon(8, 6);
        x.addTorch(7, 5, 2);
        x.addTorch(0, 0, 0);
        values("new", torchOf(x, 0), 7, 5, 2, 1);
        values("without fuel", torchOf(x, 1), 0, 0, 0, 0);
        x.act(12);
        values("one turn later", torchOf(x, 0), 7, 5, 1, 1);
        x.act(12);
        values("two turns later", torchOf(x, 0), 7, 5, 0, 0);
        x.act(12);
        values("three turns later", torchOf(x, 0), 7, 5, 0, 0);
        values("without fuel then", torchOf(x, 1), 0, 0, 0, 0);
    }

    // ---- promise 16, monster

    private static void promise16RefusesNumbersWithoutAMonster() {
        for (int monster : new int[] {-1, 2, 6, LEAST, MOST}) {
            refused("monster " + monster, BOUNDS, x -> x.monster(monster, 0));
            refused("monster " + monster + " with a wrong value, too", BOUNDS, x -> x.monster(monster, 8));
        }
        Twins.refused("the first of none", BOUNDS, EchoDungeon::new, x -> x.monster(0, 0));
        Twins.refused("the seventh", BOUNDS, Twins::full, x -> x.monster(6, 0));
        Check.same("the sixth", Twins.full().monster(5, 2), 6);
    }

    private static void promise16RefusesOtherValuesThanZeroToSeven() {
        for (int what : new int[] {-1, 8, LEAST, MOST}) {
            refused("value " + what, ARGUMENT, x -> x.monster(1, what));
        }
        for (int what = 0; what < 8; what++) {
            int w = what;
            asked("value " + w, x -> x.monster(1, w));
        }
    }

    private static void promise16TellsItsGoalOrNone() {
        EchoDungeon x = dungeon(8, 6);
        x.addMonster(7, 5, 1, 1);
        values("new", monsterOf(x, 0), 7, 5, 1, 1, -1, -1, 0, 0);
        x.placeHero(6, 0, 5, 0);
        x.addMonster(0, 0, 1, 0);
        x.act(15);
        values("a goal in the last column", monsterOf(x, 0), 7, 4, 1, 1, 7, 0, 0, 0);
        values("too far off", monsterOf(x, 1), 0, 0, 1, 0, -1, -1, 0, 0);
        x.placeHero(1, 0, 5, 0);
        x.act(3);
        values("reached at once", monsterOf(x, 1), 0, 0, 1, 0, -1, -1, 0, 1);
    }

    private static void promise16HasAGoalInTheFirstCell() {
        EchoDungeon x = dungeon(3, 1);
        x.placeHero(1, 0, 5, 0);
        x.addMonster(2, 0, 1, 0);
        x.act(3);
        values("on its way", monsterOf(x, 0), 1, 0, 1, 0, 0, 0, 0, 0);
    }

    private static void promise16SeesAlongRowsAndColumnsAlone() {
        for (int cell = 0; cell < 48; cell++) {
            EchoDungeon x = dungeon(8, 6);
            x.placeHero(3, 2, 5, 9);
            x.addMonster(cell % 8, cell / 8, 9, 0);
            Check.same("in the dark from " + cell, x.monster(0, 6), 0);
            x.addTorch(3, 5, 9);
            Check.same("in the light from " + cell, x.monster(0, 6), cell % 8 == 3 || cell / 8 == 2 ? 1 : 0);
        }
    }

    private static void promise16SeesAcrossTheWholeDungeon() {
        int[][] ends = {{0, 0, 7, 0}, {7, 0, 0, 0}, {0, 5, 7, 5}, {7, 5, 0, 5}, {0, 0, 0, 5}, {0, 5, 0, 0}, {7, 0, 7, 5}};
        for (int[] a : ends) {
            EchoDungeon x = dungeon(8, 6);
            x.placeHero(a[0], a[1], 5, 9);
            x.addMonster(a[2], a[3], 9, 0);
            x.addTorch(a[0], a[1], 9);
            Check.same("from (" + a[2] + ", " + a[3] + ")", x.monster(0, 6), 1);
        }
    }

    private static void promise16SeesOnlyALitCell() {
        for (int column = 0; column < 8; column++) {
            EchoDungeon x = dungeon(8, 2);
            x.addTorch(column, 1, 9);
            x.addMonster(7, 0, 9, 0);
            x.addMonster(0, 0, 9, 0);
            int due = column <= 2 ? 1 : 0;
            Check.same("a torch " + (column + 1) + " steps off", x.monster(0, 6), due);
            Check.same("in the same cell", x.monster(1, 6), due);
        }
        EchoDungeon x = dungeon(8, 1);
        x.addMonster(7, 0, 9, 0);
        x.act(13);
        Check.same("with the own torch", x.monster(0, 6), 1);
        x.act(14);
        Check.same("without it", x.monster(0, 6), 0);
    }

    private static void promise16SeesOnlyWhereAllBordersCanBePassed() {
        for (int border = WALL; border <= LOCKED; border++) {
            for (int at = 0; at < 7; at++) {
                EchoDungeon x = dungeon(8, 2);
                x.addTorch(0, 0, 9);
                x.addMonster(7, 0, 9, 0);
                putBorder(x, at, 0, 1, border);
                Check.same("border " + border + " to the east at " + at, x.monster(0, 6), border == OPEN ? 1 : 0);
                x.addTorch(7, 0, 9);
                x.placeHero(7, 0, 5, 0);
                x.addMonster(0, 0, 9, 0);
                Check.same("border " + border + " to the west at " + at, x.monster(1, 6), border == OPEN ? 1 : 0);
            }
            for (int at = 0; at < 5; at++) {
                EchoDungeon x = dungeon(2, 6);
                x.addTorch(0, 0, 9);
                x.addMonster(0, 5, 9, 0);
                putBorder(x, 0, at, 2, border);
                Check.same("border " + border + " to the south at " + at, x.monster(0, 6), border == OPEN ? 1 : 0);
                x.addTorch(0, 5, 9);
                x.placeHero(0, 5, 5, 0);
                x.addMonster(0, 0, 9, 0);
                Check.same("border " + border + " to the north at " + at, x.monster(1, 6), border == OPEN ? 1 : 0);
            }
        }
    }

    private static void promise16BordersBesideTheLineDoNotMatter() {
        EchoDungeon x = dungeon(5, 3);
        x.placeHero(1, 1, 5, 0);
        x.addTorch(1, 1, 9);
        x.addMonster(3, 1, 9, 0);
        x.setWall(0, 1, 1, true);
        x.setWall(3, 1, 1, true);
        for (int column = 1; column <= 3; column++) {
            x.setWall(column, 0, 2, true);
            x.setWall(column, 1, 2, true);
        }
        Check.same("along a corridor", x.monster(0, 6), 1);
    }

    private static void promise16CountsHowOftenItHurt() {
        EchoDungeon x = dungeon(2, 1);
        x.placeHero(0, 0, 3, 0);
        x.addMonster(0, 0, 9, 0);
        for (int turns = 1; turns <= 3; turns++) {
            x.act(12);
            Check.same("after " + turns, x.monster(0, 7), turns);
        }
        Check.fails("no turn without life", Check.STATE, () -> x.act(12));
        Check.same("no more hurt", x.monster(0, 7), 3);
    }

    // ---- promise 17, trap

    private static void promise17RefusesNumbersWithoutATrap() {
        for (int trap : new int[] {-1, 2, 6, LEAST, MOST}) {
            refused("trap " + trap, BOUNDS, x -> x.trap(trap, 0));
            refused("trap " + trap + " with a wrong value, too", BOUNDS, x -> x.trap(trap, 4));
        }
        Twins.refused("the first of none", BOUNDS, EchoDungeon::new, x -> x.trap(0, 0));
        Twins.refused("the seventh", BOUNDS, Twins::full, x -> x.trap(6, 0));
        values("the sixth", trapOf(Twins.full(), 5), 6, 5, 2, 0);
    }

    private static void promise17RefusesOtherValuesThanZeroToThree() {
        for (int what : new int[] {-1, 4, LEAST, MOST}) {
            refused("value " + what, ARGUMENT, x -> x.trap(1, what));
        }
        for (int what = 0; what < 4; what++) {
            int w = what;
            asked("value " + w, x -> x.trap(1, w));
        }
    }

    private static void promise17CountsDownToZeroAndUp() {
        EchoDungeon x = sprungTwice();
        values("sprung twice", trapOf(x, 0), 1, 0, 0, 2);
        x.act(3);
        x.act(1);
        values("not sprung a third time", trapOf(x, 0), 1, 0, 0, 2);
        x.setTrap(1, 0);
        values("set again", trapOf(x, 0), 1, 0, 2, 2);
        x.act(3);
        x.act(1);
        values("sprung a third time", trapOf(x, 0), 1, 0, 1, 3);
    }

    // ---- promise 18, whole

    private static void promise18RefusesOtherValuesThanZeroToThirteen() {
        for (int what : new int[] {-1, 14, LEAST, MOST}) {
            refused("value " + what, ARGUMENT, x -> x.whole(what));
        }
        for (int what = 0; what < 14; what++) {
            int w = what;
            asked("value " + w, x -> x.whole(w));
        }
    }

    private static void promise18TellsTheMostOfEverything() {
        EchoDungeon x = Twins.full();
        int[] due = {8, 6, 10, 6, 6, 6, 0, 5, 7, 40, 0, 2};
        for (int what = 0; what < due.length; what++) {
            Check.same("whole(" + what + ")", x.whole(what), due[what]);
        }
        Check.same("the length of the text", x.whole(13), 120);
        x.placeHero(7, 5, 9, 99);
        Check.same("the last column", x.whole(6), 7);
        Check.same("the last row", x.whole(7), 5);
        Check.same("the most life", x.whole(8), 9);
        Check.same("the most fuel", x.whole(9), 99);
    }

    private static void promise18CountsLitCellsFromNoneToAll() {
        EchoDungeon x = dungeon(8, 6);
        Check.same("none", x.whole(12), 0);
        int[][] torches = {{1, 1}, {6, 1}, {1, 4}, {6, 4}, {3, 2}, {4, 3}};
        for (int[] a : torches) {
            x.addTorch(a[0], a[1], 9);
        }
        Check.same("all", x.whole(12), 48);
        EchoDungeon y = dungeon(1, 1);
        Check.same("none of one", y.whole(12), 0);
        y.act(13);
        Check.same("one of one", y.whole(12), 1);
    }

    public static void main(String[] args) {
        Check.promises(12, 18, ValuesBoundaryTest.class);
    }
}
