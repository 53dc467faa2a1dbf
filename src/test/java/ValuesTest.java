/** Promises 12 to 18: the values of borders, cells, doors, torches, monsters, traps and the whole. */
public final class ValuesTest {
    private static final Class<IndexOutOfBoundsException> BOUNDS = Check.BOUNDS;
    private static final Class<IllegalArgumentException> ARGUMENT = Check.ARGUMENT;
    private static final int[] FAR_OFF = {-1, Integer.MIN_VALUE, Integer.MAX_VALUE};

    private static void lit(String when, EchoDungeon x, String... due) {
        int count = 0;
        for (int row = 0; row < due.length; row++) {
            for (int column = 0; column < due[row].length(); column++) {
                int isLit = due[row].charAt(column) == '*' ? 1 : 0;
                count += isLit;
                Check.same(when + ": cell(" + column + ", " + row + ", 0)", x.cell(column, row, 0), isLit);
            }
        }
        Check.same(when + ": whole(12)", x.whole(12), count);
    }

    private static void promise12Border() {
        EchoDungeon x = new EchoDungeon();
        x.begin(3, 3);
        x.setWall(1, 0, 2, true);
        x.addDoor(1, 1, 1, 0, 0);
        x.addDoor(1, 1, 2, 0, 0);
        int[][] due = {{1, 1, 0, 1}, {1, 1, 1, 2}, {1, 1, 2, 3}, {1, 1, 3, 0}, {2, 1, 3, 2}, {1, 2, 0, 3},
            {1, 0, 2, 1}, {0, 1, 1, 0}, {0, 0, 0, 1}, {0, 0, 3, 1}, {2, 2, 1, 1}, {2, 2, 2, 1}, {2, 2, 0, 0}};
        for (int[] a : due) {
            Check.same("border(" + a[0] + ", " + a[1] + ", " + a[2] + ")", x.border(a[0], a[1], a[2]), a[3]);
        }
        x.setDoor(0, 1);
        Check.same("an open door", x.border(2, 1, 3), 2);
        for (int wrong : FAR_OFF) {
            Check.fails("border(" + wrong + ", 0, 0)", BOUNDS, () -> x.border(wrong, 0, 0));
            Check.fails("border(0, " + wrong + ", 9)", BOUNDS, () -> x.border(0, wrong, 9));
            Check.fails("border(0, 0, " + wrong + ")", ARGUMENT, () -> x.border(0, 0, wrong));
        }
        Check.fails("border(3, 0, 0)", BOUNDS, () -> x.border(3, 0, 0));
        Check.fails("border(0, 3, 0)", BOUNDS, () -> x.border(0, 3, 0));
        Check.fails("border(0, 0, 4)", ARGUMENT, () -> x.border(0, 0, 4));
    }

    private static void promise13Light() {
        EchoDungeon x = new EchoDungeon();
        x.begin(8, 6);
        lit("dark", x, "........", "........", "........", "........", "........", "........");
        x.addTorch(3, 2, 9);
        x.addTorch(7, 5, 0);
        lit("a standing torch", x, "..***...", ".*****..", "*******.", ".*****..", "..***...", "...*....");
        x.setWall(3, 2, 1, true);
        x.addDoor(3, 1, 2, 0, 0);
        lit("a wall and a closed door", x, "..*.....", ".***....", "*****...", ".*****..", "..***...", "...*....");
        x.setDoor(0, 1);
        lit("the door is open", x, "..***...", ".*****..", "*****...", ".*****..", "..***...", "...*....");
        x.begin(8, 6);
        x.placeHero(6, 4, 5, 20);
        x.act(13);
        lit("the hero's torch", x, "........", "........", "......*.", ".....***", "....****", ".....***");
        x.addTorch(0, 0, 1);
        x.act(12);
        lit("a torch went out", x, "........", "........", "......*.", ".....***", "....****", ".....***");
        x.act(14);
        lit("dark again", x, "........", "........", "........", "........", "........", "........");
    }

    private static void promise13Cell() {
        EchoDungeon x = new EchoDungeon();
        x.addMonster(2, 1, 9, 0);
        x.addMonster(3, 1, 9, 0);
        x.addMonster(2, 1, 9, 0);
        x.setTrap(0, 3);
        x.setTrap(2, 1);
        x.addTorch(2, 1, 0);
        x.addTorch(1, 2, 5);
        x.addTorch(2, 1, 9);
        Check.same("monsters", x.cell(2, 1, 1), 5);
        Check.same("one monster", x.cell(3, 1, 1), 2);
        Check.same("no monster", x.cell(1, 2, 1), 0);
        Check.same("trap", x.cell(2, 1, 2), 1);
        Check.same("trap 0", x.cell(0, 3, 2), 0);
        Check.same("no trap", x.cell(1, 2, 2), -1);
        Check.same("torches, lit or not", x.cell(2, 1, 3), 2);
        Check.same("one torch", x.cell(1, 2, 3), 1);
        Check.same("no torch", x.cell(3, 1, 3), 0);
        for (int wrong : FAR_OFF) {
            Check.fails("cell(" + wrong + ", 0, 0)", BOUNDS, () -> x.cell(wrong, 0, 0));
            Check.fails("cell(0, " + wrong + ", 4)", BOUNDS, () -> x.cell(0, wrong, 4));
            Check.fails("cell(0, 0, " + wrong + ")", ARGUMENT, () -> x.cell(0, 0, wrong));
        }
        Check.fails("cell(5, 0, 0)", BOUNDS, () -> x.cell(5, 0, 0));
        Check.fails("cell(0, 4, 0)", BOUNDS, () -> x.cell(0, 4, 0));
        Check.fails("cell(0, 0, 4)", ARGUMENT, () -> x.cell(0, 0, 4));
    }

    private static void promise14Door() {
        EchoDungeon x = new EchoDungeon();
        x.addDoor(3, 3, 1, 0, 0);
        x.addDoor(0, 0, 1, 7, 4);
        x.act(5);
        x.act(1);
        int[] due = {1, 7, 4, 0, 1, 5};
        for (int what = 0; what < due.length; what++) {
            Check.same("door(1, " + what + ")", x.door(1, what), due[what]);
        }
        for (int wrong : FAR_OFF) {
            Check.fails("door(" + wrong + ", 0)", BOUNDS, () -> x.door(wrong, 0));
            Check.fails("door(1, " + wrong + ")", ARGUMENT, () -> x.door(1, wrong));
        }
        Check.fails("door(2, 6)", BOUNDS, () -> x.door(2, 6));
        Check.fails("door(1, 6)", ARGUMENT, () -> x.door(1, 6));
    }

    private static void promise15Torch() {
        EchoDungeon x = new EchoDungeon();
        x.addTorch(3, 1, 7);
        x.addTorch(4, 2, 1);
        x.act(12);
        int[][] due = {{3, 1, 6, 1}, {4, 2, 0, 0}};
        for (int what = 0; what < 4; what++) {
            Check.same("torch(0, " + what + ")", x.torch(0, what), due[0][what]);
            Check.same("torch(1, " + what + ")", x.torch(1, what), due[1][what]);
        }
        for (int wrong : FAR_OFF) {
            Check.fails("torch(" + wrong + ", 0)", BOUNDS, () -> x.torch(wrong, 0));
            Check.fails("torch(1, " + wrong + ")", ARGUMENT, () -> x.torch(1, wrong));
        }
        Check.fails("torch(2, 4)", BOUNDS, () -> x.torch(2, 4));
        Check.fails("torch(1, 4)", ARGUMENT, () -> x.torch(1, 4));
    }

    private static void promise16Monster() {
        EchoDungeon x = new EchoDungeon();
        x.placeHero(1, 2, 9, 0);
        x.addTorch(1, 0, 50);
        x.addMonster(4, 2, 6, 1);
        x.addMonster(0, 0, 9, 0);
        x.act(12);
        int[][] due = {{3, 2, 6, 1, 1, 2, 1, 0}, {0, 0, 9, 0, -1, -1, 0, 0}};
        for (int what = 0; what < 8; what++) {
            Check.same("monster(0, " + what + ")", x.monster(0, what), due[0][what]);
            Check.same("monster(1, " + what + ")", x.monster(1, what), due[1][what]);
        }
        x.act(12);
        x.act(12);
        Check.same("it hurt the hero", x.monster(0, 7), 1);
        for (int wrong : FAR_OFF) {
            Check.fails("monster(" + wrong + ", 0)", BOUNDS, () -> x.monster(wrong, 0));
            Check.fails("monster(1, " + wrong + ")", ARGUMENT, () -> x.monster(1, wrong));
        }
        Check.fails("monster(2, 8)", BOUNDS, () -> x.monster(2, 8));
        Check.fails("monster(1, 8)", ARGUMENT, () -> x.monster(1, 8));
    }

    private static void promise16Sight() {
        EchoDungeon x = new EchoDungeon();
        x.begin(8, 6);
        x.placeHero(3, 3, 9, 0);
        x.addMonster(3, 0, 9, 0);
        x.addMonster(7, 3, 9, 0);
        x.addMonster(3, 5, 9, 0);
        x.addMonster(0, 3, 9, 0);
        x.addMonster(3, 3, 9, 0);
        x.addMonster(4, 4, 9, 0);
        for (int n = 0; n < 6; n++) {
            Check.same("in the dark sees " + n, x.monster(n, 6), 0);
        }
        x.addTorch(4, 2, 50);
        for (int n = 0; n < 6; n++) {
            Check.same("in the light sees " + n, x.monster(n, 6), n == 5 ? 0 : 1);
        }
        x.setWall(3, 1, 2, true);
        x.addDoor(5, 3, 1, 0, 0);
        x.addDoor(2, 3, 1, 0, 0);
        x.addDoor(3, 3, 2, 0, 0);
        x.setDoor(1, 1);
        x.setDoor(2, 2);
        int[] due = {0, 0, 0, 1, 1, 0};
        for (int n = 0; n < 6; n++) {
            Check.same("behind wall and doors sees " + n, x.monster(n, 6), due[n]);
        }
        x.begin(8, 1);
        x.addMonster(7, 0, 9, 0);
        x.addTorch(3, 0, 50);
        Check.same("along the longest line", x.monster(0, 6), 1);
        x.placeHero(7, 0, 9, 0);
        Check.same("in a dark cell", x.monster(0, 6), 0);
    }

    private static void promise17Trap() {
        EchoDungeon x = new EchoDungeon();
        x.setTrap(4, 3);
        x.setTrap(1, 0);
        x.act(1);
        int[] due = {1, 0, 1, 1};
        for (int what = 0; what < due.length; what++) {
            Check.same("trap(1, " + what + ")", x.trap(1, what), due[what]);
        }
        Check.same("trap(0, 0)", x.trap(0, 0), 4);
        Check.same("trap(0, 1)", x.trap(0, 1), 3);
        for (int wrong : FAR_OFF) {
            Check.fails("trap(" + wrong + ", 0)", BOUNDS, () -> x.trap(wrong, 0));
            Check.fails("trap(1, " + wrong + ")", ARGUMENT, () -> x.trap(1, wrong));
        }
        Check.fails("trap(2, 4)", BOUNDS, () -> x.trap(2, 4));
        Check.fails("trap(1, 4)", ARGUMENT, () -> x.trap(1, 4));
    }

    private static void promise18Whole() {
        EchoDungeon x = new EchoDungeon();
        x.begin(7, 3);
        x.addDoor(0, 0, 2, 0, 0);
        x.addDoor(1, 0, 2, 0, 0);
        x.addTorch(6, 2, 3);
        x.addTorch(6, 2, 0);
        x.addTorch(6, 2, 0);
        x.addMonster(6, 0, 9, 0);
        for (int n = 0; n < 4; n++) {
            x.setTrap(n + 1, 2);
        }
        x.placeHero(4, 1, 8, 42);
        x.type('n');
        x.type('.');
        x.act(13);
        x.act(2);
        int[] due = {7, 3, 2, 3, 1, 4, 4, 2, 7, 40, 1, 2, 12, 2};
        for (int what = 0; what < due.length; what++) {
            Check.same("whole(" + what + ")", x.whole(what), due[what]);
        }
        for (int wrong : FAR_OFF) {
            Check.fails("whole(" + wrong + ")", ARGUMENT, () -> x.whole(wrong));
        }
        Check.fails("whole(14)", ARGUMENT, () -> x.whole(14));
    }

    public static void main(String[] args) {
        promise12Border();
        promise13Light();
        promise13Cell();
        promise14Door();
        promise15Torch();
        promise16Monster();
        promise16Sight();
        promise17Trap();
        promise18Whole();
        Check.finish();
    }
}
