/** Promises 10 and 11: actions, the reasons against them, and what happens in a turn. */
public final class ActionTest {
    private static final Class<IllegalArgumentException> ARGUMENT = Check.ARGUMENT;
    private static final Class<IllegalStateException> STATE = Check.STATE;
    private static final int WAIT = 12;
    private static final int LIGHT = 13;
    private static final int PUT_OUT = 14;
    private static final int THROW = 15;

    private static EchoDungeon dungeon(int columns, int rows) {
        EchoDungeon x = new EchoDungeon();
        x.begin(columns, rows);
        return x;
    }

    private static void reasons(String when, EchoDungeon x, int... due) {
        for (int action = 0; action < 16; action++) {
            Check.same(when + ": reason(" + action + ")", x.reason(action), due[action]);
        }
    }

    private static void hero(String when, EchoDungeon x, int column, int row) {
        Check.same(when + ": column of the hero", x.whole(6), column);
        Check.same(when + ": row of the hero", x.whole(7), row);
    }

    private static void goal(String when, EchoDungeon x, int monster, int column, int row) {
        Check.same(when + ": goal column of " + monster, x.monster(monster, 4), column);
        Check.same(when + ": goal row of " + monster, x.monster(monster, 5), row);
    }

    private static void place(String when, EchoDungeon x, int monster, int column, int row) {
        Check.same(when + ": column of " + monster, x.monster(monster, 0), column);
        Check.same(when + ": row of " + monster, x.monster(monster, 1), row);
    }

    private static void promise11Reason() {
        EchoDungeon x = new EchoDungeon();
        reasons("new", x, 2, 0, 0, 2, 3, 3, 3, 3, 3, 3, 3, 3, 0, 0, 6, 0);
        x.placeHero(1, 1, 1, 0);
        reasons("no fuel", x, 0, 0, 0, 0, 3, 3, 3, 3, 3, 3, 3, 3, 0, 6, 6, 0);
        x.setWall(1, 0, 2, true);
        x.addDoor(1, 1, 1, 0, 0);
        x.addDoor(1, 1, 2, 0, 0);
        x.addDoor(0, 1, 1, 0, 0);
        x.setDoor(1, 1);
        x.setDoor(2, 2);
        reasons("wall, closed, open, locked", x, 2, 2, 0, 2, 3, 0, 5, 4, 3, 5, 0, 4, 0, 6, 6, 0);
        x.placeHero(1, 1, 1, 3);
        x.act(LIGHT);
        Check.same("lit already", x.reason(LIGHT), 6);
        Check.same("to put it out", x.reason(PUT_OUT), 0);
        x.act(PUT_OUT);
        Check.same("lit no more", x.reason(LIGHT), 0);
        Check.same("put out already", x.reason(PUT_OUT), 6);
        long before = x.digest();
        x.reason(1);
        Check.same("reason changes nothing", x.digest(), before);
        x.placeHero(1, 1, 0, 3);
        reasons("no life", x, 1, 1, 1, 1, 1, 1, 1, 1, 1, 1, 1, 1, 1, 1, 1, 1);
        for (int action : new int[] {-1, 16, Integer.MIN_VALUE, Integer.MAX_VALUE}) {
            Check.fails("reason(" + action + ")", ARGUMENT, () -> x.reason(action));
        }
    }

    private static void wrongActions() {
        EchoDungeon x = new EchoDungeon();
        long before = x.digest();
        for (int action : new int[] {-1, 16, Integer.MIN_VALUE, Integer.MAX_VALUE}) {
            Check.fails("act(" + action + ")", ARGUMENT, () -> x.act(action));
        }
        for (int action : new int[] {0, 3, 4, 11, PUT_OUT}) {
            Check.fails("act(" + action + ")", STATE, () -> x.act(action));
        }
        Check.same("wrong actions change nothing", x.digest(), before);
        x.placeHero(0, 0, 0, 5);
        Check.fails("act(12) without life", STATE, () -> x.act(WAIT));
        Check.fails("act(16) without life", ARGUMENT, () -> x.act(16));
        Check.same("no turn was made", x.whole(11), 0);
    }

    private static void steps() {
        EchoDungeon x = new EchoDungeon();
        x.placeHero(1, 1, 7, 20);
        Check.same("act(0)", x.act(0), 7);
        hero("north", x, 1, 0);
        x.act(1);
        hero("east", x, 2, 0);
        x.act(2);
        hero("south", x, 2, 1);
        x.act(3);
        hero("west", x, 1, 1);
        Check.same("turns", x.whole(11), 4);
        Check.same("fuel of a torch that is not lit", x.whole(9), 20);
        Check.same("undo() of a step", x.undo(), 3);
        hero("undone", x, 2, 1);
        Check.same("turns after undo()", x.whole(11), 3);
    }

    private static void doorsRememberTheHero() {
        EchoDungeon x = new EchoDungeon();
        x.addDoor(0, 0, 1, 3, 0);
        x.act(5);
        Check.same("opened", x.door(0, 0), 1);
        Check.same("turns left with the turn in which it was opened", x.door(0, 5), 2);
        Check.same("nobody passed", x.door(0, 3), -1);
        x.act(1);
        Check.same("the hero passed", x.door(0, 3), 0);
        x.act(3);
        Check.same("twice", x.door(0, 4), 2);
        Check.same("its spring has closed it", x.door(0, 0), 0);
        Check.same("no turns left", x.door(0, 5), 0);
        x.act(5);
        x.act(9);
        Check.same("closed by hand", x.door(0, 0), 0);
        Check.same("no turns left when closed", x.door(0, 5), 0);
        Check.same("opening is no passing", x.door(0, 4), 2);
    }

    private static void springs() {
        EchoDungeon x = new EchoDungeon();
        x.addDoor(0, 0, 1, 1, 0);
        x.addDoor(0, 0, 2, 0, 0);
        x.act(5);
        Check.same("a spring of 1 closes it in the same turn", x.door(0, 0), 0);
        x.act(6);
        x.act(WAIT);
        Check.same("without a spring it stays open", x.door(1, 0), 1);
        Check.same("and will not close", x.door(1, 5), 0);
        x.setDoor(0, 2);
        x.act(WAIT);
        Check.same("a locked door stays locked", x.door(0, 0), 2);
    }

    private static void torchesBurn() {
        EchoDungeon x = new EchoDungeon();
        x.addTorch(4, 3, 2);
        x.addTorch(4, 3, 0);
        x.placeHero(0, 0, 5, 2);
        x.act(LIGHT);
        Check.same("fuel after lighting", x.whole(9), 1);
        Check.same("it is lit", x.whole(10), 1);
        Check.same("fuel of a standing torch", x.torch(0, 2), 1);
        Check.same("it is lit, too", x.torch(0, 3), 1);
        x.act(WAIT);
        Check.same("fuel at the end", x.whole(9), 0);
        Check.same("it went out", x.whole(10), 0);
        Check.same("fuel of the standing torch at the end", x.torch(0, 2), 0);
        Check.same("it went out, too", x.torch(0, 3), 0);
        Check.same("fuel of the one that had none", x.torch(1, 2), 0);
        x.act(WAIT);
        Check.same("fuel does not fall below 0", x.whole(9), 0);
        x.placeHero(0, 0, 5, 1);
        x.act(LIGHT);
        Check.same("the last fuel burns in the turn of lighting", x.whole(10), 0);
        x.placeHero(0, 0, 5, 9);
        x.act(LIGHT);
        x.act(PUT_OUT);
        Check.same("no fuel is burnt in the turn of putting out", x.whole(9), 8);
    }

    private static void traps() {
        EchoDungeon x = dungeon(8, 1);
        x.setTrap(1, 0);
        x.addMonster(7, 0, 3, 0);
        x.addMonster(7, 0, 4, 0);
        Check.same("onto the trap", x.act(1), 4);
        Check.same("set once", x.trap(0, 2), 1);
        Check.same("sprung once", x.trap(0, 3), 1);
        goal("heard over 6 steps with 9", x, 0, 1, 0);
        goal("an ear of 4 hears only more", x, 1, -1, -1);
        x.begin(8, 1);
        x.setTrap(1, 0);
        x.act(1);
        Check.same("waiting on it springs nothing", x.act(WAIT), 4);
        x.act(1);
        Check.same("onto it again", x.act(3), 3);
        Check.same("set no more", x.trap(0, 2), 0);
        x.act(3);
        Check.same("onto it a third time", x.act(1), 3);
        Check.same("sprung twice", x.trap(0, 3), 2);
        x.setTrap(2, 0);
        x.placeHero(1, 0, 1, 0);
        Check.same("the last life", x.act(1), 0);
        x.undo();
        Check.same("undo() sets a trap again", x.trap(1, 2), 2);
        Check.same("and it was not sprung", x.trap(1, 3), 0);
    }

    private static void onlyStepsSpringTrapsAndPassDoors() {
        EchoDungeon x = new EchoDungeon();
        x.placeHero(1, 1, 5, 9);
        x.setTrap(1, 1);
        x.addDoor(1, 0, 2, 0, 0);
        for (int action : new int[] {4, WAIT, 8, 4, LIGHT, PUT_OUT, THROW}) {
            Check.same("life after the action " + action, x.act(action), 5);
        }
        Check.same("the trap is still set", x.trap(0, 2), 2);
        Check.same("the door is still open", x.door(0, 0), 1);
        Check.same("nobody passed it", x.door(0, 4), 0);
    }

    private static void noLifeBelowZero() {
        EchoDungeon x = dungeon(2, 1);
        x.setTrap(1, 0);
        x.addMonster(1, 0, 1, 0);
        x.addMonster(1, 0, 1, 0);
        x.placeHero(0, 0, 1, 0);
        Check.same("a trap and two monsters", x.act(1), 0);
        Check.same("hurt once", x.monster(0, 7), 1);
        Check.same("hurt although life is 0", x.monster(1, 7), 1);
        Check.fails("no action without life", STATE, () -> x.act(WAIT));
    }

    private static void stepsAreHeard() {
        EchoDungeon x = dungeon(8, 1);
        x.addMonster(3, 0, 1, 0);
        x.addMonster(3, 0, 2, 0);
        x.addMonster(4, 0, 1, 0);
        x.act(1);
        goal("2 steps off, ear 1", x, 0, 1, 0);
        goal("2 steps off, ear 2", x, 1, -1, -1);
        goal("3 steps off, ear 1", x, 2, -1, -1);
        place("it goes at once", x, 0, 2, 0);
        x.act(WAIT);
        place("it comes on", x, 0, 1, 0);
        Check.same("and hurts", x.whole(8), 4);
        goal("with its goal", x, 0, 1, 0);
        x.act(WAIT);
        goal("until it acts there", x, 0, -1, -1);
        Check.same("and hurts again", x.whole(8), 3);
        Check.same("twice", x.monster(0, 7), 2);
    }

    private static void quietActionsAreNotHeard() {
        EchoDungeon x = dungeon(3, 3);
        x.placeHero(1, 1, 9, 9);
        x.addMonster(1, 1, 1, 0);
        x.addDoor(1, 1, 1, 0, 0);
        x.act(WAIT);
        goal("waiting", x, 0, -1, -1);
        x.act(5);
        goal("a door without a creak", x, 0, -1, -1);
        x.act(LIGHT);
        goal("seen, but in its goal", x, 0, -1, -1);
        x.act(PUT_OUT);
        goal("putting out", x, 0, -1, -1);
        Check.same("it hurt in every turn", x.monster(0, 7), 4);
    }

    private static void doorsCreak() {
        EchoDungeon x = dungeon(6, 1);
        x.addDoor(0, 0, 1, 0, 5);
        x.addMonster(3, 0, 2, 0);
        x.addMonster(3, 0, 3, 0);
        x.act(5);
        goal("5 over 3 borders, ear 2", x, 0, 0, 0);
        goal("5 over 3 borders, ear 3", x, 1, -1, -1);
        x.begin(6, 1);
        x.addDoor(0, 0, 1, 0, 6);
        x.setDoor(0, 1);
        x.addMonster(2, 0, 1, 0);
        x.addMonster(2, 0, 2, 0);
        x.act(9);
        goal("6 through the closed door, ear 1, and no way", x, 0, -1, -1);
        place("it stayed", x, 0, 2, 0);
        x.begin(2, 2);
        x.addDoor(0, 0, 1, 0, 6);
        x.setDoor(0, 1);
        x.addMonster(1, 0, 3, 0);
        x.addMonster(1, 0, 4, 0);
        x.act(9);
        goal("6 around the closed door, ear 3", x, 0, 0, 0);
        place("it goes around", x, 0, 1, 1);
        goal("6 around the closed door, ear 4", x, 1, -1, -1);
    }

    private static void stones() {
        EchoDungeon x = dungeon(8, 1);
        x.addMonster(7, 0, 3, 0);
        x.addMonster(7, 0, 4, 0);
        x.act(THROW);
        goal("3 steps east", x, 0, 3, 0);
        goal("heard with 3", x, 1, -1, -1);
        place("it goes there", x, 0, 6, 0);
        hero("the hero stays", x, 0, 0);
        x.begin(8, 1);
        x.addMonster(0, 0, 1, 0);
        x.setWall(2, 0, 1, true);
        x.act(THROW);
        goal("a wall stops it", x, 0, 2, 0);
        x.addDoor(1, 0, 1, 0, 0);
        x.addMonster(0, 0, 1, 0);
        x.act(THROW);
        goal("a door stops it", x, 1, 1, 0);
        x.setDoor(0, 1);
        x.addMonster(0, 0, 1, 0);
        x.act(THROW);
        goal("an open door does not", x, 2, 2, 0);
        x.placeHero(7, 0, 5, 5);
        x.addMonster(6, 0, 6, 0);
        x.act(THROW);
        goal("the edge stops it", x, 3, 7, 0);
        x.begin(8, 1);
        x.addMonster(4, 0, 7, 0);
        x.addMonster(3, 0, 7, 0);
        x.act(THROW);
        goal("with 7 no more one step off", x, 0, -1, -1);
        goal("in its goal at once", x, 1, -1, -1);
    }

    private static void sightComesBeforeSound() {
        EchoDungeon x = dungeon(8, 2);
        x.placeHero(0, 0, 9, 20);
        x.act(LIGHT);
        x.addMonster(7, 0, 1, 0);
        x.addMonster(3, 1, 1, 0);
        x.act(THROW);
        goal("in the row of the hero", x, 0, 0, 0);
        goal("in another row", x, 1, 3, 0);
        x.placeHero(0, 0, 9, 1);
        x.addMonster(7, 0, 9, 0);
        x.act(WAIT);
        goal("the torch goes out before they look", x, 2, -1, -1);
        goal("a goal stays", x, 0, 0, 0);
        x.addTorch(3, 0, 1);
        x.act(WAIT);
        goal("so does a standing torch", x, 2, -1, -1);
        x.addTorch(3, 0, 2);
        x.act(WAIT);
        goal("one that still burns shows the hero", x, 2, 0, 0);
    }

    private static void sightIsAfterTheStep() {
        EchoDungeon x = dungeon(4, 3);
        x.addTorch(1, 0, 50);
        x.addMonster(3, 1, 9, 0);
        x.addMonster(2, 2, 9, 0);
        x.act(2);
        goal("in the new row", x, 0, 0, 1);
        goal("in no line", x, 1, -1, -1);
        place("one step", x, 0, 2, 1);
        x.act(1);
        goal("the new cell", x, 0, 1, 1);
        Check.same("caught", x.whole(8), 4);
    }

    private static void theLoudestSoundIsTheGoal() {
        EchoDungeon x = dungeon(8, 1);
        x.setTrap(1, 0);
        x.addMonster(2, 0, 9, 0);
        x.addMonster(2, 0, 8, 0);
        x.addMonster(2, 0, 2, 0);
        x.act(1);
        goal("9 one step off, ear 9", x, 0, -1, -1);
        goal("9 one step off, ear 8", x, 1, 1, 0);
        goal("both heard", x, 2, 1, 0);
    }

    private static void waysOfMonsters() {
        EchoDungeon x = dungeon(3, 3);
        x.addMonster(0, 0, 1, 0);
        x.placeHero(2, 2, 9, 0);
        x.addTorch(2, 2, 99);
        x.addMonster(2, 0, 1, 0);
        x.act(THROW);
        place("east before south", x, 0, 1, 0);
        place("the only shortest way", x, 1, 2, 1);
        x.begin(3, 3);
        x.placeHero(0, 0, 9, 0);
        x.addMonster(2, 2, 2, 0);
        x.act(THROW);
        goal("the stone's cell", x, 0, 2, 0);
        x.act(2);
        x.act(2);
        place("in the stone's cell", x, 0, 2, 0);
        x.begin(3, 3);
        x.placeHero(0, 2, 9, 0);
        x.addMonster(2, 0, 1, 0);
        x.addDoor(0, 2, 1, 0, 9);
        x.act(5);
        goal("the creak", x, 0, 0, 2);
        place("south before west", x, 0, 2, 1);
    }

    private static void monstersAtDoors() {
        EchoDungeon x = dungeon(4, 1);
        x.addDoor(2, 0, 1, 2, 0);
        x.placeHero(0, 0, 9, 0);
        x.addMonster(3, 0, 1, 1);
        x.addMonster(3, 0, 1, 0);
        x.addMonster(3, 0, 1, 1);
        x.act(THROW);
        goal("kind 1 has the goal", x, 0, 2, 0);
        goal("kind 0 after it, through the open door", x, 1, 2, 0);
        place("it opens and stays", x, 0, 3, 0);
        place("the next one passes at once", x, 1, 2, 0);
        Check.same("opened by a monster", x.door(0, 0), 1);
        Check.same("with its spring", x.door(0, 5), 1);
        Check.same("passed by monster 2 last", x.door(0, 3), 3);
        Check.same("passed by two", x.door(0, 4), 2);
        x.act(WAIT);
        place("now it passes, too", x, 0, 2, 0);
        Check.same("passed by monster 0", x.door(0, 3), 1);
        Check.same("the spring counts from the opening", x.door(0, 0), 0);
        goal("in the goal until it acts", x, 0, 2, 0);
        x.begin(4, 1);
        x.addDoor(2, 0, 1, 0, 0);
        x.addMonster(3, 0, 1, 0);
        x.act(THROW);
        goal("kind 0 alone has no way", x, 0, -1, -1);
        x.addMonster(3, 0, 1, 1);
        x.setDoor(0, 2);
        x.act(THROW);
        goal("kind 1 has no way through a locked door", x, 1, -1, -1);
        place("it stays", x, 1, 3, 0);
    }

    private static void doorsCostTwo() {
        EchoDungeon x = dungeon(3, 2);
        x.addDoor(0, 0, 1, 0, 0);
        x.addMonster(2, 0, 5, 1);
        x.addDoor(1, 0, 2, 0, 9);
        x.setDoor(1, 2);
        // By the door it costs 3, around it 4: over (2, 1), (1, 1), (0, 1).
        Check.same("the way costs", x.way(0, 0, 0), 3);
        Check.same("its first step", x.nextStep(0), 3);
        x.begin(2, 2);
        x.addDoor(0, 0, 1, 0, 7);
        x.addMonster(1, 0, 3, 1);
        x.setDoor(0, 1);
        x.act(9);
        goal("the creak around the door", x, 0, 0, 0);
        place("the door's 2 is cheaper than 3", x, 0, 1, 0);
        Check.same("it opened the door", x.door(0, 0), 1);
        x.begin(2, 2);
        x.addDoor(0, 0, 2, 0, 0);
        x.addMonster(1, 1, 3, 1);
        Check.same("free borders are cheaper", x.way(0, 0, 0), 2);
        Check.same("north", x.nextStep(0), 0);
        x.addDoor(1, 0, 2, 0, 0);
        Check.same("3 both ways, the lowest first direction", x.nextStep(0), 0);
    }

    private static void monstersOpenInTurn() {
        EchoDungeon x = dungeon(4, 1);
        x.addDoor(2, 0, 1, 0, 0);
        x.addMonster(3, 0, 1, 0);
        x.addMonster(3, 0, 1, 1);
        x.act(THROW);
        goal("the first finds the door closed", x, 0, -1, -1);
        goal("the second opens it", x, 1, 2, 0);
        Check.same("open", x.door(0, 0), 1);
    }

    public static void main(String[] args) {
        promise11Reason();
        wrongActions();
        steps();
        doorsRememberTheHero();
        springs();
        torchesBurn();
        traps();
        onlyStepsSpringTrapsAndPassDoors();
        noLifeBelowZero();
        stepsAreHeard();
        quietActionsAreNotHeard();
        doorsCreak();
        stones();
        sightComesBeforeSound();
        sightIsAfterTheStep();
        theLoudestSoundIsTheGoal();
        waysOfMonsters();
        monstersAtDoors();
        doorsCostTwo();
        monstersOpenInTurn();
        Check.finish();
    }
}
