import java.util.function.LongSupplier;

/**
 * Makes the same calls on the program and on the model, in runs that a written-out row of numbers
 * leads (so every test makes the same ones), and compares all answers.
 */
public final class ModelTest {
    private static final int RUNS = 120;
    private static final int CALLS = 500;
    private static final String LETTERS = "nesw.lxtoc0123nesw.t2e";

    private final EchoDungeon x = new EchoDungeon();
    private final Model m = new Model();
    private final StringBuilder calls = new StringBuilder();
    private long seed;
    private boolean differs;

    private ModelTest(long seed) {
        this.seed = seed * 7919 + 17;
    }

    /** A number from 0 to n - 1. */
    private int any(int n) {
        seed = seed * 6364136223846793005L + 1442695040888963407L;
        return (int) ((seed >>> 33) % n);
    }

    /** Mostly a number from least to most, at times one beside them or far away. */
    private int about(int least, int most) {
        int which = any(60);
        if (which == 0) {
            return least - 1;
        }
        if (which == 1) {
            return most + 1;
        }
        if (which == 2) {
            return any(2) == 0 ? Integer.MAX_VALUE - any(3) : Integer.MIN_VALUE + any(3);
        }
        return least + any(most - least + 1);
    }

    private int column() {
        return about(0, m.whole(0) - 1);
    }

    private int row() {
        return about(0, m.whole(1) - 1);
    }

    /** Mostly a number of one of so many things. */
    private int one(int many) {
        return about(0, Math.max(0, many - 1));
    }

    private static String answer(LongSupplier call) {
        try {
            return Long.toString(call.getAsLong());
        } catch (IndexOutOfBoundsException | IllegalArgumentException | IllegalStateException e) {
            return e.getClass().getSimpleName();
        }
    }

    private void both(String call, LongSupplier ofProgram, LongSupplier ofModel) {
        String got = answer(ofProgram);
        String due = answer(ofModel);
        calls.append(call).append(" -> ").append(got).append('\n');
        if (!got.equals(due) && !differs) {
            differs = true;
            System.out.print(calls);
            Check.same(call + ": due is " + due, 1, 0);
        }
    }

    private void make() {
        int a = column();
        int b = row();
        int c = any(2) + 1;
        int d = about(0, 9);
        int e = about(0, 9);
        switch (any(12)) {
            case 0:
                both("begin " + d + " " + e, () -> x.begin(d, e), () -> m.begin(d, e));
                break;
            case 1:
            case 2:
                boolean wall = any(4) > 0;
                int f = about(1, 2);
                both("setWall " + a + " " + b + " " + f + " " + wall,
                    () -> x.setWall(a, b, f, wall), () -> m.setWall(a, b, f, wall));
                break;
            case 3:
            case 4:
                int g = d > 4 ? 0 : d;
                both("addDoor " + a + " " + b + " " + c + " " + g + " " + e,
                    () -> x.addDoor(a, b, c, g, e), () -> m.addDoor(a, b, c, g, e));
                break;
            case 5:
            case 6:
                int door = one(m.whole(2));
                int state = about(0, 2);
                both("setDoor " + door + " " + state, () -> x.setDoor(door, state), () -> m.setDoor(door, state));
                break;
            case 7:
                int fuel = any(3) > 0 ? about(0, 99) : about(0, 4);
                both("addTorch " + a + " " + b + " " + fuel, () -> x.addTorch(a, b, fuel), () -> m.addTorch(a, b, fuel));
                break;
            case 8:
                int ear = about(1, 9);
                int kind = about(0, 1);
                both("addMonster " + a + " " + b + " " + ear + " " + kind,
                    () -> x.addMonster(a, b, ear, kind), () -> m.addMonster(a, b, ear, kind));
                break;
            case 9:
                both("setTrap " + a + " " + b, () -> x.setTrap(a, b), () -> m.setTrap(a, b));
                break;
            default:
                int oil = any(3) > 0 ? about(0, 99) : about(0, 3);
                both("placeHero " + a + " " + b + " " + d + " " + oil,
                    () -> x.placeHero(a, b, d, oil), () -> m.placeHero(a, b, d, oil));
        }
    }

    /** Mostly an action that can be done. */
    private int action() {
        int action = about(0, 15);
        for (int n = 0; n < 20 && action >= 0 && action < 16 && m.reason(action) != 0; n++) {
            action = any(16);
        }
        return action;
    }

    private void act() {
        int action = any(5) == 0 ? about(0, 15) : action();
        both("act " + action, () -> x.act(action), () -> m.act(action));
    }

    private void look() {
        int a = column();
        int b = row();
        int c = column();
        int d = row();
        int monster = one(m.whole(4));
        int n = one(m.whole(2 + any(4)));
        int what = about(0, 7);
        int action = about(0, 15);
        switch (any(14)) {
            case 0: both("reason " + action, () -> x.reason(action), () -> m.reason(action)); break;
            case 1: both("border " + a + " " + b + " " + what, () -> x.border(a, b, what), () -> m.border(a, b, what)); break;
            case 2: both("cell " + a + " " + b + " " + what, () -> x.cell(a, b, what), () -> m.cell(a, b, what)); break;
            case 3: both("door " + n + " " + what, () -> x.door(n, what), () -> m.door(n, what)); break;
            case 4: both("torch " + n + " " + what, () -> x.torch(n, what), () -> m.torch(n, what)); break;
            case 5: both("monster " + n + " " + what, () -> x.monster(n, what), () -> m.monster(n, what)); break;
            case 6: both("trap " + n + " " + what, () -> x.trap(n, what), () -> m.trap(n, what)); break;
            case 7: both("whole " + action, () -> x.whole(action), () -> m.whole(action)); break;
            case 8:
                both("soundCost " + a + " " + b + " " + c + " " + d, () -> x.soundCost(a, b, c, d), () -> m.soundCost(a, b, c, d));
                break;
            case 9:
                int loudness = any(2) == 0 ? about(0, 99) : any(15);
                both("hearers " + a + " " + b + " " + loudness, () -> x.hearers(a, b, loudness), () -> m.hearers(a, b, loudness));
                break;
            case 10: both("way " + monster + " " + a + " " + b, () -> x.way(monster, a, b), () -> m.way(monster, a, b)); break;
            case 11: both("nextStep " + monster, () -> x.nextStep(monster), () -> m.nextStep(monster)); break;
            case 12: both("safeTimes " + action, () -> x.safeTimes(action), () -> m.safeTimes(action)); break;
            default: both("quiet " + a + " " + b, () -> x.quiet(a, b), () -> m.quiet(a, b));
        }
    }

    private void write() {
        int which = any(12);
        if (which == 0) {
            both("clearActions", () -> x.clearActions(), () -> m.clearActions());
        } else if (which < 4) {
            both("runActions", () -> x.runActions(), () -> m.runActions());
        } else {
            int value = any(40) == 0 ? about(0, 127) : LETTERS.charAt(any(LETTERS.length()));
            both("type " + value, () -> x.type(value), () -> m.type(value));
        }
    }

    private void run() {
        int making = 20 + any(40);
        int writing = any(3) * 10;
        both("begin", () -> x.begin(1 + (int) (seed & 7), 1 + (int) (seed >> 3 & 3)),
            () -> m.begin(1 + (int) (seed & 7), 1 + (int) (seed >> 3 & 3)));
        for (int n = 0; n < CALLS && !differs; n++) {
            int which = any(100);
            if (n < making || which < 8) {
                make();
            } else if (which < 8 + writing) {
                write();
            } else if (which < 55) {
                act();
            } else if (which < 58) {
                both("undo", () -> x.undo(), () -> m.undo());
            } else if (which < 70) {
                both("digest", () -> x.digest(), () -> m.digest());
            } else {
                look();
            }
        }
    }

    public static void main(String[] args) {
        int runs = args.length > 0 ? Integer.parseInt(args[0]) : RUNS;
        for (int n = 0; n < runs; n++) {
            new ModelTest(n).run();
        }
        Check.finish();
    }
}
