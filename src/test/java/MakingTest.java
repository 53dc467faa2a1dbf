/** Promises 1 to 9: a new object, and the making of a dungeon. */
public final class MakingTest {
    private static final Class<IndexOutOfBoundsException> BOUNDS = Check.BOUNDS;
    private static final Class<IllegalArgumentException> ARGUMENT = Check.ARGUMENT;
    private static final Class<IllegalStateException> STATE = Check.STATE;

    private static void whole(String when, EchoDungeon x, int... due) {
        for (int what = 0; what < due.length; what++) {
            Check.same(when + ": whole(" + what + ")", x.whole(what), due[what]);
        }
    }

    /** A wrong call must leave even the undo stack alone, which the digest counts. */
    private static void refused(String what, EchoDungeon x, Class<? extends RuntimeException> due, Runnable call) {
        long before = x.digest();
        Check.fails(what, due, call);
        Check.same(what + " changes nothing: digest()", x.digest(), before);
    }

    private static void promise1NewObject() {
        EchoDungeon x = new EchoDungeon();
        whole("new", x, 5, 4, 0, 0, 0, 0, 0, 0, 5, 20, 0, 0, 0, 0);
        for (int y = 0; y < 4; y++) {
            for (int column = 0; column < 5; column++) {
                String place = "new: (" + column + ", " + y + ")";
                Check.same(place + " north", x.border(column, y, 0), y == 0 ? 1 : 0);
                Check.same(place + " east", x.border(column, y, 1), column == 4 ? 1 : 0);
                Check.same(place + " south", x.border(column, y, 2), y == 3 ? 1 : 0);
                Check.same(place + " west", x.border(column, y, 3), column == 0 ? 1 : 0);
            }
        }
        Check.fails("new: undo()", STATE, x::undo);
        Check.same("new: clearActions()", x.clearActions(), 0);
    }

    private static void promise2Begin() {
        EchoDungeon x = new EchoDungeon();
        x.addDoor(0, 0, 1, 1, 1);
        x.setWall(1, 1, 1, true);
        x.addTorch(1, 1, 9);
        x.addMonster(0, 0, 9, 0);
        x.setTrap(2, 2);
        x.placeHero(3, 3, 2, 7);
        x.type('n');
        x.act(13);
        x.act(12);
        Check.same("begin(8, 6) after two turns", x.begin(8, 6), 2);
        whole("begun", x, 8, 6, 0, 0, 0, 0, 0, 0, 5, 20, 0, 0, 0, 1);
        Check.same("begun: the wall has gone", x.border(1, 1, 1), 0);
        Check.same("begun: the door has gone", x.border(0, 0, 1), 0);
        Check.same("begun: the old edge has gone", x.border(4, 3, 1), 0);
        Check.same("begun: the new edge", x.border(7, 5, 1), 1);
        Check.same("begun: trap", x.cell(2, 2, 2), -1);
        Check.same("begun: undo()", x.undo(), 3);
        whole("undone", x, 5, 4, 1, 1, 1, 1, 3, 3, 2, 5, 1, 2);
        Check.same("begin(1, 1)", x.begin(1, 1), 2);
        for (int direction = 0; direction < 4; direction++) {
            Check.same("1 cell: border " + direction, x.border(0, 0, direction), 1);
        }
        Check.same("begin(3, 2) without a turn", x.begin(3, 2), 0);
        int[][] wrong = {{0, 1}, {9, 1}, {1, 0}, {1, 7}, {-1, 3}, {3, Integer.MIN_VALUE}, {Integer.MAX_VALUE, 3}};
        for (int[] size : wrong) {
            refused("begin(" + size[0] + ", " + size[1] + ")", x, ARGUMENT, () -> x.begin(size[0], size[1]));
        }
    }

    private static void promise3SetWall() {
        EchoDungeon x = new EchoDungeon();
        Check.same("setWall(1, 1, 1, true)", x.setWall(1, 1, 1, true), 0);
        Check.same("the wall from the west", x.border(1, 1, 1), 1);
        Check.same("the wall from the east", x.border(2, 1, 3), 1);
        Check.same("setWall(1, 1, 1, true) again", x.setWall(1, 1, 1, true), 1);
        Check.same("setWall(1, 1, 1, false)", x.setWall(1, 1, 1, false), 1);
        Check.same("the wall has gone from the east", x.border(2, 1, 3), 0);
        Check.same("setWall(1, 1, 1, false) again", x.setWall(1, 1, 1, false), 0);
        Check.same("setWall(1, 1, 2, true)", x.setWall(1, 1, 2, true), 0);
        Check.same("the wall from the south", x.border(1, 2, 0), 1);
        Check.same("the wall from the north", x.border(1, 1, 2), 1);
        Check.same("undo() of a wall", x.undo(), 3);
        Check.same("undone wall", x.border(1, 2, 0), 0);
        x.addDoor(3, 2, 1, 0, 0);
        refused("a wall in a door", x, STATE, () -> x.setWall(3, 2, 1, true));
        refused("no wall in a door", x, STATE, () -> x.setWall(3, 2, 1, false));
        int[][] noCell = {{5, 0, 1}, {-1, 0, 1}, {0, 4, 2}, {0, -1, 2}, {5, 0, 7}, {Integer.MAX_VALUE, 0, 1}};
        for (int[] a : noCell) {
            refused("setWall without a cell", x, BOUNDS, () -> x.setWall(a[0], a[1], a[2], true));
        }
        int[][] noSide = {{0, 0, 0}, {1, 1, 3}, {0, 0, -1}, {4, 0, 1}, {0, 3, 2}, {4, 3, 1}, {1, 1, Integer.MAX_VALUE}};
        for (int[] a : noSide) {
            refused("setWall without a side " + a[2], x, ARGUMENT, () -> x.setWall(a[0], a[1], a[2], true));
        }
    }

    private static void promise4AddDoor() {
        EchoDungeon x = new EchoDungeon();
        x.setWall(0, 0, 2, true);
        Check.same("addDoor in a wall", x.addDoor(0, 0, 2, 9, 0), 0);
        Check.same("the door from the north", x.border(0, 0, 2), 2);
        Check.same("the door from the south", x.border(0, 1, 0), 2);
        Check.same("addDoor(0, 0, 1, 0, 9)", x.addDoor(0, 0, 1, 0, 9), 1);
        Check.same("the door from the east", x.border(1, 0, 3), 3);
        int[] due = {0, 9, 0, -1, 0, 0};
        for (int what = 0; what < due.length; what++) {
            Check.same("a new door: door(0, " + what + ")", x.door(0, what), due[what]);
        }
        refused("a second door", x, STATE, () -> x.addDoor(0, 0, 1, 0, 0));
        refused("a second door in the door 0", x, STATE, () -> x.addDoor(0, 0, 2, 0, 0));
        refused("no cell comes first", x, BOUNDS, () -> x.addDoor(5, 0, 3, 10, 0));
        refused("the range before the state", x, ARGUMENT, () -> x.addDoor(0, 0, 1, 10, 0));
        int[][] wrong = {{1, 1, 0, 0, 0}, {1, 1, 3, 0, 0}, {4, 1, 1, 0, 0}, {1, 3, 2, 0, 0},
            {1, 1, 1, -1, 0}, {1, 1, 1, 10, 0}, {1, 1, 1, 0, -1}, {1, 1, 1, 0, 10}};
        for (int[] a : wrong) {
            refused("addDoor out of range", x, ARGUMENT, () -> x.addDoor(a[0], a[1], a[2], a[3], a[4]));
        }
        for (int n = 2; n < 10; n++) {
            int door = n;
            Check.same("the door " + n, x.addDoor((n - 2) % 4, 1 + (n - 2) / 4, 1, 0, 0), door);
        }
        refused("an eleventh door", x, STATE, () -> x.addDoor(0, 3, 1, 0, 0));
        refused("an eleventh door out of range", x, ARGUMENT, () -> x.addDoor(0, 3, 2, 0, 0));
        Check.same("undo() of a door", x.undo(), 3);
        Check.same("doors after undo()", x.whole(2), 9);
        Check.same("the border after undo()", x.border(3, 2, 1), 0);
        Check.same("the tenth door", x.addDoor(0, 3, 1, 0, 0), 9);
    }

    private static void promise5SetDoor() {
        EchoDungeon x = new EchoDungeon();
        x.addDoor(0, 0, 1, 3, 0);
        x.addDoor(0, 0, 2, 0, 0);
        Check.same("setDoor(0, 1)", x.setDoor(0, 1), 0);
        Check.same("its turns left", x.door(0, 5), 3);
        x.act(12);
        Check.same("its turns left after a turn", x.door(0, 5), 2);
        Check.same("setDoor(0, 1) once more", x.setDoor(0, 1), 1);
        Check.same("its turns left then", x.door(0, 5), 3);
        Check.same("setDoor(0, 2)", x.setDoor(0, 2), 1);
        Check.same("a locked door has no turns left", x.door(0, 5), 0);
        Check.same("setDoor(0, 0)", x.setDoor(0, 0), 2);
        Check.same("its state", x.door(0, 0), 0);
        Check.same("setDoor(1, 1)", x.setDoor(1, 1), 0);
        Check.same("without a spring", x.door(1, 5), 0);
        Check.same("undo() of setDoor", x.undo(), 3);
        Check.same("its state after undo()", x.door(1, 0), 0);
        refused("setDoor(2, 0)", x, BOUNDS, () -> x.setDoor(2, 0));
        refused("setDoor(-1, 9)", x, BOUNDS, () -> x.setDoor(-1, 9));
        refused("setDoor(0, 3)", x, ARGUMENT, () -> x.setDoor(0, 3));
        refused("setDoor(0, -1)", x, ARGUMENT, () -> x.setDoor(0, -1));
    }

    private static void promise6AddTorch() {
        EchoDungeon x = new EchoDungeon();
        Check.same("addTorch(4, 3, 99)", x.addTorch(4, 3, 99), 0);
        Check.same("addTorch(1, 2, 0)", x.addTorch(1, 2, 0), 1);
        int[][] due = {{4, 3, 99, 1}, {1, 2, 0, 0}};
        for (int what = 0; what < 4; what++) {
            Check.same("torch(0, " + what + ")", x.torch(0, what), due[0][what]);
            Check.same("torch(1, " + what + ")", x.torch(1, what), due[1][what]);
        }
        refused("addTorch(0, 4, 100)", x, BOUNDS, () -> x.addTorch(0, 4, 100));
        refused("addTorch(0, 0, 100)", x, ARGUMENT, () -> x.addTorch(0, 0, 100));
        refused("addTorch(0, 0, -1)", x, ARGUMENT, () -> x.addTorch(0, 0, -1));
        for (int n = 2; n < 6; n++) {
            Check.same("the torch " + n, x.addTorch(0, 0, n), n);
        }
        refused("a seventh torch", x, STATE, () -> x.addTorch(0, 0, 1));
        refused("a seventh torch out of range", x, ARGUMENT, () -> x.addTorch(0, 0, 100));
        Check.same("undo() of a torch", x.undo(), 3);
        Check.same("torches after undo()", x.whole(3), 5);
    }

    private static void promise7AddMonster() {
        EchoDungeon x = new EchoDungeon();
        Check.same("addMonster(4, 3, 9, 1)", x.addMonster(4, 3, 9, 1), 0);
        Check.same("addMonster(0, 0, 1, 0)", x.addMonster(0, 0, 1, 0), 1);
        int[][] due = {{4, 3, 9, 1, -1, -1, 0, 0}, {0, 0, 1, 0, -1, -1, 0, 0}};
        for (int what = 0; what < 8; what++) {
            Check.same("monster(0, " + what + ")", x.monster(0, what), due[0][what]);
            Check.same("monster(1, " + what + ")", x.monster(1, what), due[1][what]);
        }
        refused("addMonster(-1, 0, 0, 0)", x, BOUNDS, () -> x.addMonster(-1, 0, 0, 0));
        int[][] wrong = {{0, 0}, {10, 0}, {-5, 1}, {1, -1}, {9, 2}};
        for (int[] a : wrong) {
            refused("addMonster out of range", x, ARGUMENT, () -> x.addMonster(0, 0, a[0], a[1]));
        }
        for (int n = 2; n < 6; n++) {
            Check.same("the monster " + n, x.addMonster(4, 3, 1, 0), n);
        }
        refused("a seventh monster", x, STATE, () -> x.addMonster(0, 0, 1, 0));
        refused("a seventh monster out of range", x, ARGUMENT, () -> x.addMonster(0, 0, 0, 0));
        Check.same("undo() of a monster", x.undo(), 3);
        Check.same("monsters after undo()", x.whole(4), 5);
        Check.same("a monster after undo()", x.addMonster(2, 2, 3, 1), 5);
        Check.same("it has no old values", x.monster(5, 2), 3);
    }

    private static void promise8SetTrap() {
        EchoDungeon x = new EchoDungeon();
        Check.same("setTrap(1, 0)", x.setTrap(1, 0), 0);
        Check.same("setTrap(2, 0)", x.setTrap(2, 0), 1);
        x.act(1);
        Check.same("a sprung trap is set", x.trap(0, 2), 1);
        Check.same("setTrap(1, 0) again", x.setTrap(1, 0), 0);
        Check.same("the trap is set two times", x.trap(0, 2), 2);
        Check.same("it remembers that it was sprung", x.trap(0, 3), 1);
        Check.same("traps", x.whole(5), 2);
        for (int n = 2; n < 6; n++) {
            Check.same("the trap " + n, x.setTrap(n - 2, 3), n);
        }
        refused("a seventh trap", x, STATE, () -> x.setTrap(4, 2));
        Check.same("one of six traps once more", x.setTrap(0, 3), 2);
        refused("setTrap(5, 0)", x, BOUNDS, () -> x.setTrap(5, 0));
        refused("setTrap(0, -1)", x, BOUNDS, () -> x.setTrap(0, -1));
        Check.same("undo() of a trap that was there", x.undo(), 3);
        Check.same("undo() of a new trap", x.undo(), 2);
        Check.same("traps after undo()", x.whole(5), 5);
        Check.same("the cell after undo()", x.cell(3, 3, 2), -1);
    }

    private static void promise9PlaceHero() {
        EchoDungeon x = new EchoDungeon();
        Check.same("placeHero in the dark", x.placeHero(4, 3, 9, 99), 0);
        whole("placed", x, 5, 4, 0, 0, 0, 0, 4, 3, 9, 99, 0, 0);
        x.act(13);
        Check.same("placeHero with light", x.placeHero(0, 1, 0, 1), 1);
        whole("placed again", x, 5, 4, 0, 0, 0, 0, 0, 1, 0, 1, 1, 1);
        Check.same("placeHero without fuel", x.placeHero(2, 1, 3, 0), 0);
        Check.same("the torch is not lit any more", x.whole(10), 0);
        Check.same("undo() of placeHero", x.undo(), 3);
        Check.same("the torch after undo()", x.whole(10), 1);
        x.placeHero(2, 1, 3, 0);
        Check.same("with fuel again it is not lit", x.placeHero(2, 1, 3, 9), 0);
        x.addTorch(4, 2, 5);
        Check.same("placeHero in a torch's light", x.placeHero(2, 1, 3, 0), 1);
        Check.same("placeHero outside of it", x.placeHero(1, 1, 3, 0), 0);
        x.setTrap(3, 3);
        x.placeHero(3, 3, 3, 0);
        Check.same("placing springs no trap", x.trap(0, 2), 2);
        Check.same("placing makes no turn", x.whole(11), 1);
        refused("placeHero(5, 0, 10, 0)", x, BOUNDS, () -> x.placeHero(5, 0, 10, 0));
        int[][] wrong = {{-1, 0}, {10, 0}, {0, -1}, {0, 100}};
        for (int[] a : wrong) {
            refused("placeHero out of range", x, ARGUMENT, () -> x.placeHero(0, 0, a[0], a[1]));
        }
    }

    public static void main(String[] args) {
        promise1NewObject();
        promise2Begin();
        promise3SetWall();
        promise4AddDoor();
        promise5SetDoor();
        promise6AddTorch();
        promise7AddMonster();
        promise8SetTrap();
        promise9PlaceHero();
        Check.finish();
    }
}
