/** Promises 19 to 24: the questions what would be, which change nothing. */
public final class WhatIfTest {
    private static final Class<IndexOutOfBoundsException> BOUNDS = Check.BOUNDS;
    private static final Class<IllegalArgumentException> ARGUMENT = Check.ARGUMENT;
    private static final int[] FAR_OFF = {-1, Integer.MIN_VALUE, Integer.MAX_VALUE};

    private static EchoDungeon dungeon(int columns, int rows) {
        EchoDungeon x = new EchoDungeon();
        x.begin(columns, rows);
        return x;
    }

    private static void promise19SoundCost() {
        EchoDungeon x = dungeon(8, 6);
        Check.same("the same cell", x.soundCost(3, 3, 3, 3), 0);
        Check.same("all across", x.soundCost(0, 0, 7, 5), 12);
        Check.same("and back", x.soundCost(7, 5, 0, 0), 12);
        x.begin(4, 1);
        x.setWall(0, 0, 1, true);
        x.addDoor(1, 0, 1, 0, 0);
        x.addDoor(2, 0, 1, 0, 0);
        x.setDoor(1, 1);
        Check.same("a wall", x.soundCost(0, 0, 1, 0), 7);
        Check.same("a closed door", x.soundCost(1, 0, 2, 0), 4);
        Check.same("an open door", x.soundCost(2, 0, 3, 0), 1);
        Check.same("all of them", x.soundCost(3, 0, 0, 0), 12);
        x.setDoor(0, 2);
        Check.same("a locked door", x.soundCost(1, 0, 2, 0), 4);
        x.begin(2, 6);
        for (int row = 0; row < 6; row++) {
            x.setWall(0, row, 1, true);
            Check.same("through walls or around " + (row + 1), x.soundCost(0, 0, 1, 0), Math.min(7, 3 + 2 * row));
            Check.same("in the last row beside " + (row + 1), x.soundCost(0, 5, 1, 5), row == 5 ? 7 : 1);
        }
        for (int wrong : FAR_OFF) {
            Check.fails("soundCost(" + wrong + ", ..)", BOUNDS, () -> x.soundCost(wrong, 0, 0, 0));
            Check.fails("soundCost(0, " + wrong + ", ..)", BOUNDS, () -> x.soundCost(0, wrong, 0, 0));
            Check.fails("soundCost(.., " + wrong + ", 0)", BOUNDS, () -> x.soundCost(0, 0, wrong, 0));
            Check.fails("soundCost(.., 0, " + wrong + ")", BOUNDS, () -> x.soundCost(0, 0, 0, wrong));
        }
        Check.fails("soundCost(2, 0, 0, 0)", BOUNDS, () -> x.soundCost(2, 0, 0, 0));
        Check.fails("soundCost(0, 6, 0, 0)", BOUNDS, () -> x.soundCost(0, 6, 0, 0));
        Check.fails("soundCost(0, 0, 2, 0)", BOUNDS, () -> x.soundCost(0, 0, 2, 0));
        Check.fails("soundCost(0, 0, 0, 6)", BOUNDS, () -> x.soundCost(0, 0, 0, 6));
    }

    private static void promise20Hearers() {
        EchoDungeon x = dungeon(8, 1);
        Check.same("no monsters", x.hearers(0, 0, 99), 0);
        x.addMonster(0, 0, 1, 0);
        x.addMonster(0, 0, 2, 0);
        x.addMonster(3, 0, 4, 0);
        x.addMonster(7, 0, 9, 1);
        int[][] due = {{0, 0}, {1, 1}, {2, 3}, {6, 3}, {7, 7}, {15, 7}, {16, 15}, {99, 15}};
        for (int[] a : due) {
            Check.same("hearers(0, 0, " + a[0] + ")", x.hearers(0, 0, a[0]), a[1]);
        }
        Check.same("hearers(7, 0, 8)", x.hearers(7, 0, 8), 5);
        Check.same("hearers(7, 0, 9)", x.hearers(7, 0, 9), 15);
        x.setWall(6, 0, 1, true);
        Check.same("through a wall, not enough", x.hearers(0, 0, 21), 7);
        Check.same("through a wall", x.hearers(0, 0, 22), 15);
        long before = x.digest();
        x.hearers(0, 0, 99);
        Check.same("hearers changes nothing", x.digest(), before);
        for (int wrong : FAR_OFF) {
            Check.fails("hearers(" + wrong + ", 0, 0)", BOUNDS, () -> x.hearers(wrong, 0, 0));
            Check.fails("hearers(0, " + wrong + ", 100)", BOUNDS, () -> x.hearers(0, wrong, 100));
            Check.fails("hearers(0, 0, " + wrong + ")", ARGUMENT, () -> x.hearers(0, 0, wrong));
        }
        Check.fails("hearers(8, 0, 0)", BOUNDS, () -> x.hearers(8, 0, 0));
        Check.fails("hearers(0, 1, 0)", BOUNDS, () -> x.hearers(0, 1, 0));
        Check.fails("hearers(0, 0, 100)", ARGUMENT, () -> x.hearers(0, 0, 100));
    }

    private static void promise21Way() {
        EchoDungeon x = dungeon(4, 1);
        x.addMonster(0, 0, 1, 0);
        x.addMonster(0, 0, 1, 1);
        x.addDoor(1, 0, 1, 0, 0);
        Check.same("where it is", x.way(0, 0, 0), 0);
        Check.same("to the door", x.way(0, 1, 0), 1);
        Check.same("kind 0 through a closed door", x.way(0, 2, 0), -1);
        Check.same("kind 1 through a closed door", x.way(1, 2, 0), 3);
        Check.same("kind 1 behind it", x.way(1, 3, 0), 4);
        x.setDoor(0, 1);
        Check.same("kind 0 through an open door", x.way(0, 3, 0), 3);
        Check.same("kind 1 through an open door", x.way(1, 3, 0), 3);
        x.setDoor(0, 2);
        Check.same("kind 0 through a locked door", x.way(0, 3, 0), -1);
        Check.same("kind 1 through a locked door", x.way(1, 3, 0), -1);
        x.setWall(0, 0, 1, true);
        Check.same("through a wall", x.way(1, 1, 0), -1);
        for (int wrong : FAR_OFF) {
            Check.fails("way(" + wrong + ", 0, 0)", BOUNDS, () -> x.way(wrong, 0, 0));
            Check.fails("way(0, " + wrong + ", 0)", BOUNDS, () -> x.way(0, wrong, 0));
            Check.fails("way(0, 0, " + wrong + ")", BOUNDS, () -> x.way(0, 0, wrong));
        }
        Check.fails("way(2, 0, 0)", BOUNDS, () -> x.way(2, 0, 0));
        Check.fails("way(0, 4, 0)", BOUNDS, () -> x.way(0, 4, 0));
        Check.fails("way(0, 0, 1)", BOUNDS, () -> x.way(0, 0, 1));
    }

    private static void promise22NextStep() {
        EchoDungeon x = dungeon(3, 3);
        x.placeHero(1, 1, 5, 0);
        int[][] due = {{1, 1, -1}, {1, 2, 0}, {0, 1, 1}, {1, 0, 2}, {2, 1, 3}, {0, 2, 0}};
        for (int n = 0; n < due.length; n++) {
            x.addMonster(due[n][0], due[n][1], 9, n % 2);
        }
        for (int n = 0; n < due.length; n++) {
            Check.same("nextStep(" + n + ")", x.nextStep(n), due[n][2]);
        }
        x.setWall(0, 1, 1, true);
        Check.same("around the wall, north first", x.nextStep(2), 0);
        Check.same("the free corner instead", x.nextStep(5), 1);
        x.setWall(0, 1, 2, true);
        x.addDoor(0, 0, 1, 0, 0);
        Check.same("shut in, kind 0", x.nextStep(2), -1);
        x.addDoor(1, 1, 2, 0, 0);
        Check.same("kind 1 goes to the door", x.nextStep(1), 0);
        for (int wrong : FAR_OFF) {
            Check.fails("nextStep(" + wrong + ")", BOUNDS, () -> x.nextStep(wrong));
        }
        Check.fails("nextStep(6)", BOUNDS, () -> x.nextStep(6));
    }

    private static void promise23SafeTimes() {
        EchoDungeon x = dungeon(8, 1);
        Check.same("steps until the edge", x.safeTimes(1), 7);
        Check.same("steps that cannot be done", x.safeTimes(3), 0);
        Check.same("waiting without end", x.safeTimes(12), 30);
        Check.same("throwing without end", x.safeTimes(15), 30);
        Check.same("lighting", x.safeTimes(13), 1);
        Check.same("putting out", x.safeTimes(14), 0);
        x.placeHero(0, 0, 5, 1);
        Check.same("lighting with the last fuel", x.safeTimes(13), 1);
        x.setTrap(3, 0);
        Check.same("steps until a trap", x.safeTimes(1), 2);
        x.addMonster(7, 0, 2, 0);
        Check.same("stones call the monster to a cell beside", x.safeTimes(15), 30);
        x.placeHero(7, 0, 5, 1);
        Check.same("with the monster here", x.safeTimes(12), 0);
        x.placeHero(6, 0, 5, 9);
        Check.same("a light calls it at once", x.safeTimes(13), 0);
        x.placeHero(4, 0, 5, 9);
        Check.same("a stone keeps it away", x.safeTimes(15), 30);
        x.setTrap(4, 0);
        long before = x.digest();
        Check.same("steps west", x.safeTimes(3), 0);
        Check.same("safeTimes changes nothing", x.digest(), before);
        x.act(13);
        Check.same("seen from three steps off", x.safeTimes(12), 1);
        x.placeHero(4, 0, 0, 9);
        Check.same("without life", x.safeTimes(12), 0);
        for (int wrong : FAR_OFF) {
            Check.fails("safeTimes(" + wrong + ")", ARGUMENT, () -> x.safeTimes(wrong));
        }
        Check.fails("safeTimes(16)", ARGUMENT, () -> x.safeTimes(16));
        x.begin(2, 1);
        x.addDoor(0, 0, 1, 1, 0);
        Check.same("a door that closes by itself", x.safeTimes(5), 30);
    }

    private static void promise24Quiet() {
        EchoDungeon x = dungeon(8, 1);
        Check.same("no monsters", x.quiet(0, 0), 99);
        x.addMonster(7, 0, 9, 0);
        Check.same("7 steps and an ear of 9", x.quiet(0, 0), 15);
        Check.same("it would hear more", x.hearers(0, 0, 16), 1);
        Check.same("beside it", x.quiet(6, 0), 9);
        Check.same("with it", x.quiet(7, 0), 8);
        x.addMonster(5, 0, 1, 0);
        Check.same("a finer ear", x.quiet(7, 0), 2);
        Check.same("with the finer ear", x.quiet(5, 0), 0);
        x.addDoor(5, 0, 1, 0, 0);
        Check.same("a door between", x.quiet(7, 0), 5);
        x.setWall(6, 0, 1, true);
        Check.same("a wall between, but the other is here", x.quiet(7, 0), 8);
        for (int wrong : FAR_OFF) {
            Check.fails("quiet(" + wrong + ", 0)", BOUNDS, () -> x.quiet(wrong, 0));
            Check.fails("quiet(0, " + wrong + ")", BOUNDS, () -> x.quiet(0, wrong));
        }
        Check.fails("quiet(8, 0)", BOUNDS, () -> x.quiet(8, 0));
        Check.fails("quiet(0, 1)", BOUNDS, () -> x.quiet(0, 1));
    }

    public static void main(String[] args) {
        promise19SoundCost();
        promise20Hearers();
        promise21Way();
        promise22NextStep();
        promise23SafeTimes();
        promise24Quiet();
        Check.finish();
    }
}
