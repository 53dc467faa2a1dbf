import java.util.function.Consumer;

/** Promises 19 to 24 at their boundaries: the questions what would be. */
public final class WhatIfBoundaryTest {
    private static final Class<IndexOutOfBoundsException> BOUNDS = Check.BOUNDS;
    private static final Class<IllegalArgumentException> ARGUMENT = Check.ARGUMENT;
    private static final int LEAST = Integer.MIN_VALUE;
    private static final int MOST = Integer.MAX_VALUE;
    private static final int[] NO_MONSTERS = {-1, 2, 6, LEAST, MOST};
    private static final int WAIT = 12;

    private static EchoDungeon dungeon(int columns, int rows) {
        EchoDungeon x = new EchoDungeon();
        x.begin(columns, rows);
        return x;
    }

    /** Eight columns and six rows with a wall in every border. */
    private static EchoDungeon allWalls() {
        EchoDungeon x = dungeon(8, 6);
        for (int cell = 0; cell < 48; cell++) {
            if (cell % 8 < 7) {
                x.setWall(cell % 8, cell / 8, 1, true);
            }
            if (cell / 8 < 5) {
                x.setWall(cell % 8, cell / 8, 2, true);
            }
        }
        return x;
    }

    /** Makes one long way of a dungeon of eight columns and six rows: there, back, there, and so on. */
    private static void wind(EchoDungeon x) {
        for (int row = 0; row < 5; row++) {
            for (int column = 0; column < 8; column++) {
                x.setWall(column, row, 2, column != (row % 2 == 0 ? 7 : 0));
            }
        }
    }

    /** The column of the cell that is so many steps from the first one on the long way. */
    private static int columnOn(int steps) {
        return steps / 8 % 2 == 0 ? steps % 8 : 7 - steps % 8;
    }

    private static int rowOn(int steps) {
        return steps / 8;
    }

    private static int distance(int cell, int other) {
        return Math.abs(cell % 8 - other % 8) + Math.abs(cell / 8 - other / 8);
    }

    private static void refused(String what, Class<? extends RuntimeException> due, Consumer<EchoDungeon> call) {
        Twins.refused(what, due, Twins::busy, call);
    }

    private static void asked(String what, Consumer<EchoDungeon> call) {
        Twins.onlyAsked(what, Twins::busy, call);
        Twins.onlyAsked(what + " of a full one", Twins::full, call);
    }

    // ---- promise 19, soundCost

    private static void promise19RefusesCellsOutside() {
        for (int[] a : Twins.NO_CELLS) {
            refused("from (" + a[0] + ", " + a[1] + ")", BOUNDS, x -> x.soundCost(a[0], a[1], 1, 1));
            refused("to (" + a[0] + ", " + a[1] + ")", BOUNDS, x -> x.soundCost(1, 1, a[0], a[1]));
            refused("from and to (" + a[0] + ", " + a[1] + ")", BOUNDS, x -> x.soundCost(a[0], a[1], a[0], a[1]));
        }
        asked("soundCost", x -> x.soundCost(0, 0, 5, 3));
    }

    private static void promise19IsTheStepsOverFreeBorders() {
        for (int from = 0; from < 48; from++) {
            EchoDungeon x = dungeon(8, 6);
            for (int to = 0; to < 48; to++) {
                Check.same("from " + from + " to " + to, x.soundCost(from % 8, from / 8, to % 8, to / 8), distance(from, to));
            }
        }
        Check.same("the only cell", dungeon(1, 1).soundCost(0, 0, 0, 0), 0);
    }

    private static void promise19CostsOneFourOrSeven() {
        EchoDungeon x = dungeon(2, 1);
        Check.same("free", x.soundCost(0, 0, 1, 0), 1);
        x.setWall(0, 0, 1, true);
        Check.same("a wall", x.soundCost(0, 0, 1, 0), 7);
        x.addDoor(0, 0, 1, 0, 0);
        Check.same("a closed door", x.soundCost(0, 0, 1, 0), 4);
        x.setDoor(0, 1);
        Check.same("an open door", x.soundCost(0, 0, 1, 0), 1);
        x.setDoor(0, 2);
        Check.same("a locked door", x.soundCost(0, 0, 1, 0), 4);
        Check.same("back", x.soundCost(1, 0, 0, 0), 4);
        Check.same("on one side of it", x.soundCost(1, 0, 1, 0), 0);
    }

    private static void promise19TakesTheCheapestWay() {
        for (int row = 0; row < 6; row++) {
            EchoDungeon x = dungeon(2, 6);
            for (int wall = 0; wall < row; wall++) {
                x.setWall(0, wall, 1, true);
            }
            int around = 2 * row + 1;
            Check.same("a wall or " + around, x.soundCost(0, 0, 1, 0), Math.min(7, around));
            if (row > 0) {
                x.addDoor(0, 0, 1, 0, 0);
                Check.same("a door or " + around, x.soundCost(1, 0, 0, 0), Math.min(4, around));
            }
        }
        EchoDungeon x = dungeon(3, 2);
        x.setWall(0, 0, 2, true);
        x.addDoor(0, 0, 1, 0, 0);
        Check.same("a door and two steps, not a wall", x.soundCost(0, 0, 0, 1), 6);
        x.addDoor(1, 0, 2, 0, 0);
        Check.same("a wall, not a door and four steps", x.soundCost(0, 0, 0, 1), 7);
    }

    /** A maze in which the first way that is found to many cells is far from the cheapest one. */
    private static void promise19TakesTheCheapestWayOfAMaze() {
        String[] east = {".#####..", "####.##.", ".#.##.#.", "..#.###.", "##.##.#.", "...####."};
        String[] south = {"..#.....", "#.......", "#.......", "###.##..", "###.#...", "........"};
        for (int from = 0; from < 48; from++) {
            EchoDungeon x = dungeon(8, 6);
            Model model = new Model();
            model.begin(8, 6);
            for (int cell = 0; cell < 48; cell++) {
                if (east[cell / 8].charAt(cell % 8) == '#') {
                    x.setWall(cell % 8, cell / 8, 1, true);
                    model.setWall(cell % 8, cell / 8, 1, true);
                }
                if (south[cell / 8].charAt(cell % 8) == '#') {
                    x.setWall(cell % 8, cell / 8, 2, true);
                    model.setWall(cell % 8, cell / 8, 2, true);
                }
            }
            for (int to = 0; to < 48; to++) {
                Check.same("from " + from + " to " + to, x.soundCost(from % 8, from / 8, to % 8, to / 8),
                    model.soundCost(from % 8, from / 8, to % 8, to / 8));
            }
        }
    }

    private static void promise19GoesThroughAllWallsButThoseAround() {
        EchoDungeon x = allWalls();
        Check.same("twelve walls", x.soundCost(0, 0, 7, 5), 84);
        Check.same("and back", x.soundCost(7, 5, 0, 0), 84);
        Check.same("from the end of a row to the next row", x.soundCost(7, 0, 0, 1), 56);
    }

    // ---- promise 20, hearers

    private static void promise20RefusesCellsOutside() {
        for (int[] a : Twins.NO_CELLS) {
            refused("hearers(" + a[0] + ", " + a[1] + ")", BOUNDS, x -> x.hearers(a[0], a[1], 5));
            refused("with a wrong loudness, too", BOUNDS, x -> x.hearers(a[0], a[1], 100));
        }
        asked("hearers", x -> x.hearers(0, 0, 99));
    }

    private static void promise20LoudnessIsZeroToNinetyNine() {
        EchoDungeon x = dungeon(1, 1);
        x.addMonster(0, 0, 1, 0);
        x.addMonster(0, 0, 9, 0);
        int[][] due = {{0, 0}, {1, 1}, {8, 1}, {9, 3}, {98, 3}, {99, 3}};
        for (int[] a : due) {
            Check.same("loudness " + a[0], x.hearers(0, 0, a[0]), a[1]);
        }
        for (int loudness : new int[] {-1, 100, LEAST, MOST}) {
            refused("loudness " + loudness, ARGUMENT, y -> y.hearers(0, 0, loudness));
        }
    }

    private static void promise20HearsWithAtLeastTheEar() {
        for (int ear = 1; ear <= 9; ear++) {
            for (int cell = 0; cell < 48; cell++) {
                EchoDungeon x = dungeon(8, 6);
                x.addMonster(cell % 8, cell / 8, ear, 0);
                int loudness = distance(cell, 10) + ear;
                Check.same("just loud enough for " + ear + " in " + cell, x.hearers(2, 1, loudness), 1);
                Check.same("too quiet for " + ear + " in " + cell, x.hearers(2, 1, loudness - 1), 0);
            }
        }
    }

    private static void promise20TellsEachMonsterByItsBit() {
        for (int hearer = 0; hearer < 6; hearer++) {
            EchoDungeon x = dungeon(2, 1);
            Check.same("no monster", x.hearers(0, 0, 99), 0);
            for (int n = 0; n < 6; n++) {
                x.addMonster(0, 0, n == hearer ? 4 : 5, n % 2);
            }
            Check.same("nobody", x.hearers(0, 0, 3), 0);
            Check.same("the monster " + hearer, x.hearers(0, 0, 4), 1 << hearer);
            Check.same("all", x.hearers(0, 0, 5), 63);
        }
    }

    private static void promise20HearsThroughWalls() {
        EchoDungeon x = allWalls();
        x.addMonster(7, 5, 9, 0);
        Check.same("92", x.hearers(0, 0, 92), 0);
        Check.same("93", x.hearers(0, 0, 93), 1);
    }

    // ---- promise 21, way

    private static void promise21RefusesNumbersWithoutAMonster() {
        for (int monster : NO_MONSTERS) {
            refused("monster " + monster, BOUNDS, x -> x.way(monster, 0, 0));
            refused("monster " + monster + " and no cell", BOUNDS, x -> x.way(monster, -1, 0));
        }
        Twins.refused("the first of none", BOUNDS, EchoDungeon::new, x -> x.way(0, 0, 0));
        Twins.refused("the seventh", BOUNDS, Twins::full, x -> x.way(6, 0, 0));
        Check.same("the sixth, which has seen the hero", Twins.full().way(5, 7, 5), 1);
    }

    private static void promise21RefusesCellsOutside() {
        for (int[] a : Twins.NO_CELLS) {
            refused("way to (" + a[0] + ", " + a[1] + ")", BOUNDS, x -> x.way(0, a[0], a[1]));
        }
        asked("way", x -> x.way(1, 0, 0));
    }

    private static void promise21IsTheStepsOverFreeBorders() {
        for (int from = 0; from < 48; from++) {
            EchoDungeon x = dungeon(8, 6);
            x.addMonster(from % 8, from / 8, 9, from % 2);
            for (int to = 0; to < 48; to++) {
                Check.same("from " + from + " to " + to, x.way(0, to % 8, to / 8), distance(from, to));
            }
        }
    }

    private static void promise21DependsOnTheKind() {
        int[][] due = {{1, 1}, {-1, -1}, {-1, 2}, {1, 1}, {-1, -1}};
        for (int kind = 0; kind <= 1; kind++) {
            EchoDungeon x = dungeon(2, 1);
            x.addMonster(0, 0, 9, kind);
            Check.same("free, kind " + kind, x.way(0, 1, 0), due[0][kind]);
            x.setWall(0, 0, 1, true);
            Check.same("a wall, kind " + kind, x.way(0, 1, 0), due[1][kind]);
            x.addDoor(0, 0, 1, 0, 0);
            Check.same("a closed door, kind " + kind, x.way(0, 1, 0), due[2][kind]);
            x.setDoor(0, 1);
            Check.same("an open door, kind " + kind, x.way(0, 1, 0), due[3][kind]);
            x.setDoor(0, 2);
            Check.same("a locked door, kind " + kind, x.way(0, 1, 0), due[4][kind]);
            Check.same("where it is, kind " + kind, x.way(0, 0, 0), 0);
        }
    }

    private static void promise21TakesTheShortestWay() {
        EchoDungeon x = dungeon(2, 6);
        x.addMonster(0, 0, 9, 1);
        x.addDoor(0, 0, 1, 0, 0);
        Check.same("a door, not 3", x.way(0, 1, 0), 2);
        x.addDoor(0, 0, 2, 0, 0);
        Check.same("a door and a step", x.way(0, 1, 1), 3);
        x.setDoor(1, 1);
        Check.same("two steps", x.way(0, 1, 1), 2);
    }

    private static void promise21FindsTheLongestWay() {
        for (int kind = 0; kind <= 1; kind++) {
            EchoDungeon x = dungeon(8, 6);
            wind(x);
            x.addMonster(0, 0, 9, kind);
            for (int steps = 0; steps < 48; steps++) {
                Check.same(steps + " steps", x.way(0, columnOn(steps), rowOn(steps)), steps);
            }
            for (int door = 0; door < 10; door++) {
                x.addDoor(door % 5 + 1, door / 5 * 2, 1, 0, 0);
            }
            Check.same("with ten doors, kind " + kind, x.way(0, 0, 5), kind == 0 ? -1 : 57);
        }
    }

    // ---- promise 22, nextStep

    private static void promise22RefusesNumbersWithoutAMonster() {
        for (int monster : NO_MONSTERS) {
            refused("monster " + monster, BOUNDS, x -> x.nextStep(monster));
        }
        Twins.refused("the first of none", BOUNDS, EchoDungeon::new, x -> x.nextStep(0));
        Twins.refused("the seventh", BOUNDS, Twins::full, x -> x.nextStep(6));
        asked("nextStep", x -> x.nextStep(1));
    }

    private static void promise22IsTheLowestDirectionThatComesNearer() {
        for (int cell = 0; cell < 48; cell++) {
            int column = cell % 8;
            int row = cell / 8;
            EchoDungeon x = dungeon(8, 6);
            x.placeHero(3, 2, 5, 0);
            x.addMonster(column, row, 9, 0);
            int due = row > 2 ? 0 : column < 3 ? 1 : row < 2 ? 2 : column > 3 ? 3 : -1;
            Check.same("from " + cell, x.nextStep(0), due);
        }
    }

    private static void promise22TakesTheLowerOfOppositeDirections() {
        EchoDungeon x = dungeon(3, 3);
        x.placeHero(1, 1, 5, 0);
        x.setWall(0, 1, 1, true);
        x.setWall(1, 0, 2, true);
        x.addMonster(0, 1, 9, 0);
        Check.same("the wall above makes it go south", x.nextStep(0), 2);
        x.setWall(1, 0, 2, false);
        Check.same("north or south", x.nextStep(0), 0);
        x.setWall(0, 1, 1, false);
        x.setWall(1, 0, 2, true);
        x.addMonster(1, 0, 9, 0);
        Check.same("east or west", x.nextStep(1), 1);
        x.setWall(0, 1, 1, true);
        Check.same("the wall to the west makes it go east", x.nextStep(1), 1);
        x.setWall(0, 1, 1, false);
        x.setWall(1, 1, 1, true);
        Check.same("the wall to the east makes it go west", x.nextStep(1), 3);
    }

    private static void promise22IsNoneInTheHerosCellAndWithoutAWay() {
        for (int kind = 0; kind <= 1; kind++) {
            EchoDungeon x = dungeon(2, 1);
            x.addMonster(0, 0, 9, kind);
            Check.same("in the cell", x.nextStep(0), -1);
            x.placeHero(1, 0, 5, 0);
            Check.same("beside it", x.nextStep(0), 1);
            x.setWall(0, 0, 1, true);
            Check.same("a wall", x.nextStep(0), -1);
            x.addDoor(0, 0, 1, 0, 0);
            Check.same("a closed door, kind " + kind, x.nextStep(0), kind == 0 ? -1 : 1);
            x.setDoor(0, 2);
            Check.same("a locked door", x.nextStep(0), -1);
            x.setDoor(0, 1);
            Check.same("an open door", x.nextStep(0), 1);
        }
    }

    private static void promise22WeighsClosedDoorsWithTwo() {
        EchoDungeon x = dungeon(2, 2);
        x.addMonster(1, 0, 9, 1);
        x.addDoor(0, 0, 1, 0, 0);
        Check.same("2 against 3", x.nextStep(0), 3);
        x = dungeon(3, 2);
        x.addMonster(2, 0, 9, 1);
        x.addDoor(0, 0, 1, 0, 0);
        x.addDoor(1, 0, 1, 0, 0);
        Check.same("4 against 4", x.nextStep(0), 2);
    }

    // ---- promise 23, safeTimes

    private static void promise23RefusesOtherActionsThanZeroToFifteen() {
        for (int action : new int[] {-1, 16, LEAST, MOST}) {
            refused("safeTimes(" + action + ")", ARGUMENT, x -> x.safeTimes(action));
        }
        for (int action = 0; action < 16; action++) {
            int a = action;
            asked("safeTimes(" + a + ")", x -> x.safeTimes(a));
        }
    }

    private static void promise23EndsWhereTheDungeonEnds() {
        for (int cell = 0; cell < 48; cell++) {
            int column = cell % 8;
            int row = cell / 8;
            EchoDungeon x = dungeon(8, 6);
            x.placeHero(column, row, 1, 0);
            int[] due = {row, 7 - column, 5 - row, column};
            for (int direction = 0; direction < 4; direction++) {
                Check.same("from " + cell + " to " + direction, x.safeTimes(direction), due[direction]);
            }
        }
    }

    private static void promise23EndsWithTheFirstTimeThatCannotBeDone() {
        EchoDungeon x = dungeon(2, 1);
        int[] due = {0, 1, 0, 0, 0, 0, 0, 0, 0, 0, 0, 0, 30, 1, 0, 30};
        for (int action = 0; action < 16; action++) {
            Check.same("free: " + action, x.safeTimes(action), due[action]);
        }
        x.addDoor(0, 0, 1, 0, 0);
        Check.same("a closed door: step", x.safeTimes(1), 0);
        Check.same("a closed door: open", x.safeTimes(5), 1);
        Check.same("a closed door: close", x.safeTimes(9), 0);
        x.setDoor(0, 1);
        Check.same("an open door: step", x.safeTimes(1), 1);
        Check.same("an open door: open", x.safeTimes(5), 0);
        Check.same("an open door: close", x.safeTimes(9), 1);
        x.act(13);
        Check.same("lit: light", x.safeTimes(13), 0);
        Check.same("lit: put out", x.safeTimes(14), 1);
        x.placeHero(0, 0, 5, 0);
        Check.same("without fuel: light", x.safeTimes(13), 0);
        x.placeHero(0, 0, 0, 5);
        for (int action = 0; action < 16; action++) {
            Check.same("without life: " + action, x.safeTimes(action), 0);
        }
    }

    private static void promise23LooksAtDoorsThatCloseByThemselves() {
        for (int spring = 0; spring <= 9; spring++) {
            EchoDungeon x = dungeon(2, 1);
            x.addDoor(0, 0, 1, spring, 0);
            Check.same("spring " + spring, x.safeTimes(5), spring == 1 ? 30 : 1);
        }
    }

    private static void promise23LeavesOutTheTimeWithWhichLifeFalls() {
        for (int life = 1; life <= 9; life++) {
            for (int column = 1; column < 8; column++) {
                EchoDungeon x = dungeon(8, 1);
                x.placeHero(0, 0, life, 0);
                x.setTrap(column, 0);
                Check.same("a trap after " + column + ", life " + life, x.safeTimes(1), column - 1);
            }
        }
        EchoDungeon x = dungeon(8, 1);
        x.setTrap(1, 0);
        x.act(1);
        x.act(3);
        x.act(1);
        x.act(3);
        Check.same("a trap that is not set any more", x.safeTimes(1), 7);
    }

    /** A monster that goes by the long way from its second cell nearly to its last one. */
    private static EchoDungeon monsterOnTheLongWay() {
        EchoDungeon x = dungeon(8, 6);
        x.addMonster(0, 0, 1, 0);
        x.placeHero(0, 5, 9, 0);
        x.setTrap(1, 5);
        x.act(1);
        wind(x);
        return x;
    }

    private static void promise23CountsToThirty() {
        for (int steps = 1; steps <= 45; steps++) {
            EchoDungeon x = monsterOnTheLongWay();
            Check.same("it is on its way", x.way(0, 1, 5), 45);
            x.placeHero(columnOn(1 + steps), rowOn(1 + steps), 5, 0);
            Check.same("the monster comes after " + steps, x.safeTimes(WAIT), Math.min(30, steps - 1));
        }
        EchoDungeon x = monsterOnTheLongWay();
        x.placeHero(0, 0, 5, 0);
        Check.same("the monster never comes", x.safeTimes(WAIT), 30);
    }

    // ---- promise 24, quiet

    private static void promise24RefusesCellsOutside() {
        for (int[] a : Twins.NO_CELLS) {
            refused("quiet(" + a[0] + ", " + a[1] + ")", BOUNDS, x -> x.quiet(a[0], a[1]));
        }
        asked("quiet", x -> x.quiet(5, 3));
    }

    private static void promise24IsNinetyNineWithoutMonsters() {
        EchoDungeon x = dungeon(8, 6);
        for (int cell = 0; cell < 48; cell++) {
            Check.same("in " + cell, x.quiet(cell % 8, cell / 8), 99);
        }
    }

    private static void promise24IsOneLessThanTheMonsterHears() {
        for (int ear = 1; ear <= 9; ear++) {
            for (int cell = 0; cell < 48; cell++) {
                EchoDungeon x = dungeon(8, 6);
                x.addMonster(cell % 8, cell / 8, ear, 0);
                int due = distance(cell, 10) + ear - 1;
                Check.same("ear " + ear + " in " + cell, x.quiet(2, 1), due);
                Check.same("heard with no more", x.hearers(2, 1, due), 0);
                Check.same("heard with one more", x.hearers(2, 1, due + 1), 1);
            }
        }
    }

    private static void promise24TheFinestHearerCounts() {
        for (int finest = 0; finest < 6; finest++) {
            EchoDungeon x = dungeon(8, 1);
            for (int n = 0; n < 6; n++) {
                x.addMonster(n == finest ? 2 : 7, 0, 3, 0);
            }
            Check.same("the monster " + finest, x.quiet(0, 0), 4);
        }
    }

    private static void promise24GoesFarThroughWalls() {
        EchoDungeon x = allWalls();
        x.addMonster(7, 5, 9, 0);
        Check.same("twelve walls", x.quiet(0, 0), 92);
        Check.same("in its cell", x.quiet(7, 5), 8);
        x.addMonster(7, 5, 1, 0);
        Check.same("in the cell of an ear of 1", x.quiet(7, 5), 0);
    }

    public static void main(String[] args) {
        Check.promises(19, 24, WhatIfBoundaryTest.class);
    }
}
