/**
 * A dungeon that is played by turns: a hero with a torch, standing torches, doors with springs,
 * monsters that follow what they saw or heard, and traps. The document's promises are told at the
 * methods only as far as the code needs it.
 *
 * <p>Everything is made in the constructor and used again, so that no call makes an object.
 */
public final class EchoDungeon {
    public static final int NONE = -1;

    // The rows hold the largest dungeon; a cell is row * WIDTH + column in a smaller one, too.
    private static final int WIDTH = 8;
    private static final int HEIGHT = 6;
    private static final int CELLS = WIDTH * HEIGHT;
    private static final int FIRST_COLUMNS = 5;
    private static final int FIRST_ROWS = 4;
    private static final int FIRST_LIFE = 5;
    private static final int FIRST_FUEL = 20;
    private static final int MOST_LIFE = 9;
    private static final int MOST_FUEL = 99;
    private static final int MOST_LOUDNESS = 99;
    private static final int MOST_SPRING = 9;
    private static final int MOST_CREAK = 9;
    private static final int MOST_EAR = 9;

    private static final int DIRECTIONS = 4;
    private static final int NORTH = 0;
    private static final int EAST = 1;
    private static final int SOUTH = 2;
    private static final int WEST = 3;

    // What a border is; the door n is DOOR + n. An edge is a wall around the dungeon: it differs
    // from other walls in that there is no cell behind it.
    private static final int EDGE = -1;
    private static final int FREE = 0;
    private static final int WALL = 1;
    private static final int DOOR = 2;

    // What goes over a border. The first two are the kinds of monsters as well.
    private static final int FEET = 0;
    private static final int HANDS = 1;
    private static final int SOUND = 2;

    private static final int BLOCKED = 0;
    private static final int STEP_PRICE = 1;
    private static final int OPENING_PRICE = 2;
    private static final int SHUT_DOOR_SOUND_PRICE = 4;
    private static final int WALL_SOUND_PRICE = 7;

    private static final int CLOSED = 0;
    private static final int OPEN = 1;
    private static final int LOCKED = 2;

    // The values of a door, a torch, a monster and a trap stand in the order in which the
    // document's methods door(), torch(), monster() and trap() number them.
    private static final int DOOR_STATE = 0;
    private static final int DOOR_SPRING = 1;
    private static final int DOOR_CREAK = 2;
    private static final int DOOR_LAST = 3;
    private static final int DOOR_PASSED = 4;
    private static final int DOOR_LEFT = 5;
    private static final int DOOR_VALUES = 6;
    private static final int MOST_DOORS = 10;

    private static final int COLUMN = 0;
    private static final int ROW = 1;

    private static final int TORCH_FUEL = 2;
    private static final int TORCH_LIT = 3;
    private static final int TORCH_VALUES = 4;
    private static final int MOST_TORCHES = 6;

    private static final int MONSTER_EAR = 2;
    private static final int MONSTER_KIND = 3;
    private static final int GOAL_COLUMN = 4;
    private static final int GOAL_ROW = 5;
    private static final int MONSTER_SEES = 6;
    private static final int MONSTER_HURTS = 7;
    private static final int MONSTER_VALUES = 8;
    private static final int MOST_MONSTERS = 6;

    private static final int TRAP_SET = 2;
    private static final int TRAP_SPRUNG = 3;
    private static final int TRAP_VALUES = 4;
    private static final int MOST_TRAPS = 6;
    private static final int FULLY_SET = 2;

    private static final int CELL_LIT = 0;
    private static final int CELL_MONSTERS = 1;
    private static final int CELL_TRAP = 2;
    private static final int CELL_TORCHES = 3;
    private static final int CELL_VALUES = 4;
    private static final int WHOLE_VALUES = 14;

    private static final int FIRST_OPENING = 4;
    private static final int FIRST_CLOSING = 8;
    private static final int WAIT = 12;
    private static final int LIGHT = 13;
    private static final int PUT_OUT = 14;
    private static final int THROW = 15;
    private static final int ACTIONS = 16;

    private static final int POSSIBLE = 0;
    private static final int NO_LIFE = 1;
    private static final int NO_PASSAGE = 2;
    private static final int NO_DOOR = 3;
    private static final int DOOR_IS_LOCKED = 4;
    private static final int DOOR_IS_SO_ALREADY = 5;
    private static final int NO_TORCHLIGHT = 6;

    private static final int TORCH_REACH = 3;
    private static final int HERO_REACH = 2;
    private static final int SIGHT = 8;
    private static final int STEP_LOUDNESS = 3;
    private static final int STONE_LOUDNESS = 7;
    private static final int TRAP_LOUDNESS = 9;
    private static final int STONE_REACH = 3;

    // Farther than any way in the dungeon.
    private static final int FAR = 1000000;
    // Going round all cells once makes the ways right that are one border longer, and no cheapest
    // way has as many borders as there are cells.
    private static final int MOST_NEWS = CELLS * CELLS;

    private static final int TEXT_LENGTH = 120;
    private static final int MOST_BYTE = 127;
    private static final int NUMBER_DIGITS = 2;
    private static final int MOST_TIMES = 20;
    private static final int FAULT_ANSWER = -10;

    private static final int SAVED_STATES = 4;
    private static final int SAFE_TIMES = 30;
    private static final long DIGEST_START = 43332L;

    private final Dungeon now;
    private final Dungeon trial;
    private final History history;
    private final Senses senses;
    private final Turn turn;
    private final ActionText text;

    /** Makes a dungeon of 5 columns and 4 rows with nothing but the hero in it. */
    public EchoDungeon() {
        now = new Dungeon();
        trial = new Dungeon();
        history = new History();
        senses = new Senses();
        turn = new Turn();
        text = new ActionText();
        now.empty(FIRST_COLUMNS, FIRST_ROWS);
    }

    // ---- making the dungeon

    /** Begins with another dungeon; returns the number of turns before. */
    public int begin(int columns, int rows) throws IllegalArgumentException {
        requireRange(columns, 1, WIDTH);
        requireRange(rows, 1, HEIGHT);
        history.save(now);
        int turns = now.turns;
        now.empty(columns, rows);
        return turns;
    }

    /** Makes a border a wall, or free; returns 0 if it was free, 1 if it was a wall. */
    public int setWall(int x, int y, int side, boolean wall)
            throws IndexOutOfBoundsException, IllegalArgumentException, IllegalStateException {
        requireCell(x, y);
        int place = placeOf(x, y);
        requireSide(place, side);
        int before = now.borderAt(place, side);
        if (before >= DOOR) {
            throw new IllegalStateException("the border is a door");
        }
        history.save(now);
        now.putBorder(place, side, wall ? WALL : FREE);
        return before;
    }

    /** Makes a border a closed door; returns its number. */
    public int addDoor(int x, int y, int side, int spring, int creak)
            throws IndexOutOfBoundsException, IllegalArgumentException, IllegalStateException {
        requireCell(x, y);
        int place = placeOf(x, y);
        requireSide(place, side);
        requireRange(spring, 0, MOST_SPRING);
        requireRange(creak, 0, MOST_CREAK);
        if (now.borderAt(place, side) >= DOOR) {
            throw new IllegalStateException("the border is a door already");
        }
        requireRoom(now.doors);
        history.save(now);
        int number = now.doors.add();
        now.doors.set(number, DOOR_STATE, CLOSED);
        now.doors.set(number, DOOR_SPRING, spring);
        now.doors.set(number, DOOR_CREAK, creak);
        now.doors.set(number, DOOR_LAST, NONE);
        now.putBorder(place, side, DOOR + number);
        return number;
    }

    /** Sets the state of a door; returns the one before. */
    public int setDoor(int door, int state) throws IndexOutOfBoundsException, IllegalArgumentException {
        requireNumber(now.doors, door);
        requireRange(state, CLOSED, LOCKED);
        history.save(now);
        int before = now.doors.get(door, DOOR_STATE);
        now.turnDoor(door, state);
        return before;
    }

    /** Adds a standing torch, which is lit if it has fuel; returns its number. */
    public int addTorch(int x, int y, int fuel)
            throws IndexOutOfBoundsException, IllegalArgumentException, IllegalStateException {
        requireCell(x, y);
        requireRange(fuel, 0, MOST_FUEL);
        requireRoom(now.torches);
        history.save(now);
        int number = now.torches.add();
        now.torches.move(number, placeOf(x, y));
        now.torches.set(number, TORCH_FUEL, fuel);
        now.torches.set(number, TORCH_LIT, fuel > 0 ? 1 : 0);
        return number;
    }

    /** Adds a monster without a goal; returns its number. */
    public int addMonster(int x, int y, int ear, int kind)
            throws IndexOutOfBoundsException, IllegalArgumentException, IllegalStateException {
        requireCell(x, y);
        requireRange(ear, 1, MOST_EAR);
        requireRange(kind, FEET, HANDS);
        requireRoom(now.monsters);
        history.save(now);
        int number = now.monsters.add();
        now.monsters.move(number, placeOf(x, y));
        now.monsters.set(number, MONSTER_EAR, ear);
        now.monsters.set(number, MONSTER_KIND, kind);
        now.dropGoal(number);
        return number;
    }

    /** Sets the trap of a cell two times, a new one if there is none; returns its number. */
    public int setTrap(int x, int y) throws IndexOutOfBoundsException, IllegalStateException {
        requireCell(x, y);
        int place = placeOf(x, y);
        int number = now.traps.firstIn(place);
        if (number == NONE) {
            requireRoom(now.traps);
        }
        history.save(now);
        if (number == NONE) {
            number = now.traps.add();
            now.traps.move(number, place);
        }
        now.traps.set(number, TRAP_SET, FULLY_SET);
        return number;
    }

    /** Places the hero; returns 1 if the cell is lit then, otherwise 0. */
    public int placeHero(int x, int y, int life, int fuel)
            throws IndexOutOfBoundsException, IllegalArgumentException {
        requireCell(x, y);
        requireRange(life, 0, MOST_LIFE);
        requireRange(fuel, 0, MOST_FUEL);
        history.save(now);
        now.hero = placeOf(x, y);
        now.life = life;
        now.fuel = fuel;
        if (fuel == 0) {
            now.lit = false;
        }
        senses.shine(now);
        return litValue(now.hero);
    }

    // ---- actions

    /** Does an action, and a turn; returns the life that is left. */
    public int act(int action) throws IllegalArgumentException, IllegalStateException {
        requireRange(action, 0, ACTIONS - 1);
        if (turn.obstacle(now, action) != POSSIBLE) {
            throw new IllegalStateException("the action cannot be done");
        }
        history.save(now);
        turn.play(now, action);
        return now.life;
    }

    /** Returns why an action cannot be done now, 0 if it can. */
    public int reason(int action) throws IllegalArgumentException {
        requireRange(action, 0, ACTIONS - 1);
        return turn.obstacle(now, action);
    }

    // ---- values

    /** Returns what is on one side of a cell: 0 free, 1 a wall, 2 + n for the door n. */
    public int border(int x, int y, int direction)
            throws IndexOutOfBoundsException, IllegalArgumentException {
        requireCell(x, y);
        requireRange(direction, NORTH, WEST);
        return borderValue(placeOf(x, y), direction);
    }

    /** Returns a value of a cell. */
    public int cell(int x, int y, int what) throws IndexOutOfBoundsException, IllegalArgumentException {
        requireCell(x, y);
        requireRange(what, 0, CELL_VALUES - 1);
        senses.shine(now);
        return cellValue(placeOf(x, y), what);
    }

    /** Returns a value of a door. */
    public int door(int door, int what) throws IndexOutOfBoundsException, IllegalArgumentException {
        requireNumber(now.doors, door);
        requireRange(what, 0, DOOR_VALUES - 1);
        return now.doors.get(door, what);
    }

    /** Returns a value of a standing torch. */
    public int torch(int torch, int what) throws IndexOutOfBoundsException, IllegalArgumentException {
        requireNumber(now.torches, torch);
        requireRange(what, 0, TORCH_VALUES - 1);
        return now.torches.get(torch, what);
    }

    /** Returns a value of a monster. */
    public int monster(int monster, int what) throws IndexOutOfBoundsException, IllegalArgumentException {
        requireNumber(now.monsters, monster);
        requireRange(what, 0, MONSTER_VALUES - 1);
        if (what == MONSTER_SEES) {
            return senses.heroIsLit(now) && senses.hasClearLine(now, monster) ? 1 : 0;
        }
        return now.monsters.get(monster, what);
    }

    /** Returns a value of a trap. */
    public int trap(int trap, int what) throws IndexOutOfBoundsException, IllegalArgumentException {
        requireNumber(now.traps, trap);
        requireRange(what, 0, TRAP_VALUES - 1);
        return now.traps.get(trap, what);
    }

    /** Returns a value of the whole. */
    public int whole(int what) throws IllegalArgumentException {
        requireRange(what, 0, WHOLE_VALUES - 1);
        switch (what) {
            case 0: return now.columns;
            case 1: return now.rows;
            case 2: return now.doors.count;
            case 3: return now.torches.count;
            case 4: return now.monsters.count;
            case 5: return now.traps.count;
            case 6: return columnOf(now.hero);
            case 7: return rowOf(now.hero);
            case 8: return now.life;
            case 9: return now.fuel;
            case 10: return now.lit ? 1 : 0;
            case 11: return now.turns;
            case 12: return countLitCells();
            default: return text.length;
        }
    }

    // ---- what if, which changes nothing

    /** Returns the cost of the way of a sound from (x, y) to (u, v). */
    public int soundCost(int x, int y, int u, int v) throws IndexOutOfBoundsException {
        requireCell(x, y);
        requireCell(u, v);
        senses.measure(now, placeOf(x, y), SOUND);
        return senses.costTo(placeOf(u, v));
    }

    /** Returns the set of the monsters that would hear a sound with at least their ears. */
    public int hearers(int x, int y, int loudness)
            throws IndexOutOfBoundsException, IllegalArgumentException {
        requireCell(x, y);
        requireRange(loudness, 0, MOST_LOUDNESS);
        senses.measure(now, placeOf(x, y), SOUND);
        int set = 0;
        for (int monster = 0; monster < now.monsters.count; monster++) {
            if (loudness >= senses.loudnessNeeded(now, monster)) {
                set |= 1 << monster;
            }
        }
        return set;
    }

    /** Returns the costs of the shortest way of a monster to a cell, NONE if there is no way. */
    public int way(int monster, int x, int y) throws IndexOutOfBoundsException {
        requireNumber(now.monsters, monster);
        requireCell(x, y);
        senses.measure(now, placeOf(x, y), now.monsters.get(monster, MONSTER_KIND));
        return senses.costTo(now.monsters.placeOf(monster));
    }

    /** Returns the first direction of the way of a monster to the hero, NONE without one. */
    public int nextStep(int monster) throws IndexOutOfBoundsException {
        requireNumber(now.monsters, monster);
        int kind = now.monsters.get(monster, MONSTER_KIND);
        senses.measure(now, now.hero, kind);
        return senses.firstDirection(now, now.monsters.placeOf(monster), kind);
    }

    /** Tells how often the hero could do an action until it cannot be done, or life falls. */
    public int safeTimes(int action) throws IllegalArgumentException {
        requireRange(action, 0, ACTIONS - 1);
        trial.copyFrom(now);
        for (int times = 0; times < SAFE_TIMES; times++) {
            if (turn.obstacle(trial, action) != POSSIBLE) {
                return times;
            }
            turn.play(trial, action);
            if (trial.life < now.life) {
                return times;
            }
        }
        return SAFE_TIMES;
    }

    /** Returns the greatest loudness of a sound in a cell that no monster would hear. */
    public int quiet(int x, int y) throws IndexOutOfBoundsException {
        requireCell(x, y);
        senses.measure(now, placeOf(x, y), SOUND);
        int greatest = MOST_LOUDNESS;
        for (int monster = 0; monster < now.monsters.count; monster++) {
            greatest = Math.min(greatest, senses.loudnessNeeded(now, monster) - 1);
        }
        return greatest;
    }

    // ---- action text, undo and checksum

    /** Appends a byte to the action text; returns the length of the text. */
    public int type(int value) throws IllegalArgumentException, IllegalStateException {
        requireRange(value, 0, MOST_BYTE);
        if (text.length >= TEXT_LENGTH) {
            throw new IllegalStateException("the action text is full");
        }
        text.append(value);
        return text.length;
    }

    /** Empties the action text; returns the length that it had. */
    public int clearActions() {
        int before = text.length;
        text.length = 0;
        return before;
    }

    /** Runs the action text; returns the number of turns made, or -10 minus its fault. */
    public int runActions() {
        int fault = text.findFault();
        if (fault != NONE) {
            return FAULT_ANSWER - fault;
        }
        history.save(now);
        int before = now.turns;
        text.rewind();
        for (int order = 0; order < TEXT_LENGTH && text.readNext(); order++) {
            for (int time = 0; time < text.times; time++) {
                if (turn.obstacle(now, text.action) != POSSIBLE) {
                    return now.turns - before;
                }
                turn.play(now, text.action);
            }
        }
        return now.turns - before;
    }

    /** Restores the latest saved state; returns the number of states that are left. */
    public int undo() throws IllegalStateException {
        if (history.count <= 0) {
            throw new IllegalStateException("there is no saved state");
        }
        history.restore(now);
        return history.count;
    }

    /** Returns a hash of the state. */
    public long digest() {
        long hash = mix(DIGEST_START, history.count);
        for (int what = 0; what < WHOLE_VALUES; what++) {
            hash = mix(hash, whole(what));
        }
        hash = mixCells(hash);
        hash = mixTable(hash, now.doors, DOOR_VALUES);
        hash = mixTable(hash, now.torches, TORCH_VALUES);
        hash = mixMonsters(hash);
        hash = mixTable(hash, now.traps, TRAP_VALUES);
        for (int action = 0; action < ACTIONS; action++) {
            hash = mix(hash, turn.obstacle(now, action));
        }
        return hash;
    }

    private long mixCells(long start) {
        long hash = start;
        senses.shine(now);
        for (int y = 0; y < now.rows; y++) {
            for (int x = 0; x < now.columns; x++) {
                int place = placeOf(x, y);
                hash = mix(hash, borderValue(place, EAST));
                hash = mix(hash, borderValue(place, SOUTH));
                for (int what = 0; what < CELL_VALUES; what++) {
                    hash = mix(hash, cellValue(place, what));
                }
            }
        }
        return hash;
    }

    private long mixMonsters(long start) {
        long hash = start;
        for (int number = 0; number < now.monsters.count; number++) {
            for (int what = 0; what < MONSTER_VALUES; what++) {
                hash = mix(hash, monster(number, what));
            }
            hash = mix(hash, nextStep(number));
        }
        return hash;
    }

    private static long mixTable(long start, Table table, int values) {
        long hash = start;
        for (int number = 0; number < table.count; number++) {
            for (int what = 0; what < values; what++) {
                hash = mix(hash, table.get(number, what));
            }
        }
        return hash;
    }

    private static long mix(long hash, int value) {
        return 31L * hash + value;
    }

    private int borderValue(int place, int direction) {
        int border = now.borderAt(place, direction);
        return border == EDGE ? WALL : border;
    }

    /** The light must have been shed before (senses.shine), so that many cells can share it. */
    private int cellValue(int place, int what) {
        switch (what) {
            case CELL_LIT: return litValue(place);
            case CELL_MONSTERS: return now.monsters.setIn(place);
            case CELL_TRAP: return now.traps.firstIn(place);
            case CELL_TORCHES: return Integer.bitCount(now.torches.setIn(place));
            default: return 0;
        }
    }

    /** The light must have been shed before (senses.shine). */
    private int litValue(int place) {
        return senses.costTo(place) != NONE ? 1 : 0;
    }

    private int countLitCells() {
        senses.shine(now);
        int lit = 0;
        for (int place = 0; place < CELLS; place++) {
            lit += litValue(place);
        }
        return lit;
    }

    private void requireCell(int x, int y) {
        if (x < 0 || x >= now.columns || y < 0 || y >= now.rows) {
            throw new IndexOutOfBoundsException("there is no such cell");
        }
    }

    private void requireSide(int place, int side) {
        if (side != EAST && side != SOUTH) {
            throw new IllegalArgumentException("the side is neither 1 nor 2");
        }
        if (now.borderAt(place, side) == EDGE) {
            throw new IllegalArgumentException("there is no cell behind the border");
        }
    }

    private static void requireNumber(Table table, int number) {
        if (number < 0 || number >= table.count) {
            throw new IndexOutOfBoundsException("there is nothing with this number");
        }
    }

    private static void requireRoom(Table table) {
        if (table.isFull()) {
            throw new IllegalStateException("there are no more of these");
        }
    }

    private static void requireRange(int value, int least, int most) {
        if (value < least || value > most) {
            throw new IllegalArgumentException("an argument is out of range");
        }
    }

    private static int placeOf(int x, int y) {
        return y * WIDTH + x;
    }

    private static int columnOf(int place) {
        return place % WIDTH;
    }

    private static int rowOf(int place) {
        return place / WIDTH;
    }

    private static int neighbour(int place, int direction) {
        switch (direction) {
            case NORTH: return place - WIDTH;
            case EAST: return place + 1;
            case SOUTH: return place + WIDTH;
            default: return place - 1;
        }
    }

    /** Things of one kind, numbered from 0, each with the same number of values. */
    private static final class Table {
        private final int most;
        private final int width;
        private final int[] values;
        private int count;

        Table(int most, int width) {
            this.most = most;
            this.width = width;
            values = new int[Math.max(0, most * width)];
        }

        boolean isFull() {
            return count >= most;
        }

        /** Adds a thing whose values are 0; the caller has looked whether there is room. */
        int add() {
            int number = count;
            count++;
            // A thing that was undone may have left its values here.
            for (int what = 0; what < width; what++) {
                set(number, what, 0);
            }
            return number;
        }

        int get(int number, int what) {
            int index = number * width + what;
            return index >= 0 && index < values.length ? values[index] : 0;
        }

        void set(int number, int what, int value) {
            int index = number * width + what;
            if (index >= 0 && index < values.length) {
                values[index] = value;
            }
        }

        void raise(int number, int what, int by) {
            set(number, what, get(number, what) + by);
        }

        int placeOf(int number) {
            return get(number, ROW) * WIDTH + get(number, COLUMN);
        }

        void move(int number, int place) {
            set(number, COLUMN, columnOf(place));
            set(number, ROW, rowOf(place));
        }

        int firstIn(int place) {
            for (int number = 0; number < count; number++) {
                if (placeOf(number) == place) {
                    return number;
                }
            }
            return NONE;
        }

        /** Returns the set of the things in a cell, bit n for the thing n. */
        int setIn(int place) {
            int set = 0;
            for (int number = 0; number < count; number++) {
                if (placeOf(number) == place) {
                    set |= 1 << number;
                }
            }
            return set;
        }

        void copyFrom(Table other) {
            count = other.count;
            System.arraycopy(other.values, 0, values, 0, Math.min(other.values.length, values.length));
        }
    }

    /** The whole state but the action text, and what can be said of single borders and doors. */
    private static final class Dungeon {
        // For each cell and each direction; so every border between two cells stands twice.
        private final int[] borders;
        private final Table doors;
        private final Table torches;
        private final Table monsters;
        private final Table traps;
        private int columns;
        private int rows;
        private int hero;
        private int life;
        private int fuel;
        private boolean lit;
        private int turns;

        Dungeon() {
            borders = new int[CELLS * DIRECTIONS];
            doors = new Table(MOST_DOORS, DOOR_VALUES);
            torches = new Table(MOST_TORCHES, TORCH_VALUES);
            monsters = new Table(MOST_MONSTERS, MONSTER_VALUES);
            traps = new Table(MOST_TRAPS, TRAP_VALUES);
        }

        void empty(int newColumns, int newRows) {
            columns = newColumns;
            rows = newRows;
            for (int place = 0; place < CELLS; place++) {
                freeBorders(place);
            }
            doors.count = 0;
            torches.count = 0;
            monsters.count = 0;
            traps.count = 0;
            hero = 0;
            life = FIRST_LIFE;
            fuel = FIRST_FUEL;
            lit = false;
            turns = 0;
        }

        private void freeBorders(int place) {
            int x = columnOf(place);
            int y = rowOf(place);
            boolean inside = x < columns && y < rows;
            putOneSide(place, NORTH, inside && y > 0 ? FREE : EDGE);
            putOneSide(place, EAST, inside && x < columns - 1 ? FREE : EDGE);
            putOneSide(place, SOUTH, inside && y < rows - 1 ? FREE : EDGE);
            putOneSide(place, WEST, inside && x > 0 ? FREE : EDGE);
        }

        void copyFrom(Dungeon other) {
            System.arraycopy(other.borders, 0, borders, 0, Math.min(other.borders.length, borders.length));
            doors.copyFrom(other.doors);
            torches.copyFrom(other.torches);
            monsters.copyFrom(other.monsters);
            traps.copyFrom(other.traps);
            columns = other.columns;
            rows = other.rows;
            hero = other.hero;
            life = other.life;
            fuel = other.fuel;
            lit = other.lit;
            turns = other.turns;
        }

        int borderAt(int place, int direction) {
            int index = place * DIRECTIONS + direction;
            return index >= 0 && index < borders.length ? borders[index] : EDGE;
        }

        void putBorder(int place, int direction, int border) {
            putOneSide(place, direction, border);
            putOneSide(neighbour(place, direction), (direction + 2) % DIRECTIONS, border);
        }

        private void putOneSide(int place, int direction, int border) {
            int index = place * DIRECTIONS + direction;
            if (index >= 0 && index < borders.length) {
                borders[index] = border;
            }
        }

        /** Returns what it costs to go over a border on feet, with hands, or as a sound. */
        int price(int place, int direction, int manner) {
            int border = borderAt(place, direction);
            if (border == FREE) {
                return STEP_PRICE;
            }
            if (border == EDGE) {
                return BLOCKED;
            }
            if (border == WALL) {
                return manner == SOUND ? WALL_SOUND_PRICE : BLOCKED;
            }
            int state = doors.get(border - DOOR, DOOR_STATE);
            if (state == OPEN) {
                return STEP_PRICE;
            }
            if (manner == SOUND) {
                return SHUT_DOOR_SOUND_PRICE;
            }
            return manner == HANDS && state == CLOSED ? OPENING_PRICE : BLOCKED;
        }

        boolean canPass(int place, int direction) {
            return price(place, direction, FEET) != BLOCKED;
        }

        /** Returns the number of the door on one side of a cell, NONE if there is none. */
        int doorAt(int place, int direction) {
            int border = borderAt(place, direction);
            return border >= DOOR ? border - DOOR : NONE;
        }

        void turnDoor(int number, int state) {
            doors.set(number, DOOR_STATE, state);
            doors.set(number, DOOR_LEFT, state == OPEN ? doors.get(number, DOOR_SPRING) : 0);
        }

        /** Lets the door remember who passed it, if there is a door. */
        void passBorder(int place, int direction, int who) {
            int number = doorAt(place, direction);
            if (number != NONE) {
                doors.set(number, DOOR_LAST, who);
                doors.raise(number, DOOR_PASSED, 1);
            }
        }

        void loseLife() {
            life = Math.max(0, life - 1);
        }

        boolean hasGoal(int monster) {
            return monsters.get(monster, GOAL_COLUMN) != NONE;
        }

        int goalOf(int monster) {
            return monsters.get(monster, GOAL_ROW) * WIDTH + monsters.get(monster, GOAL_COLUMN);
        }

        void setGoal(int monster, int place) {
            monsters.set(monster, GOAL_COLUMN, columnOf(place));
            monsters.set(monster, GOAL_ROW, rowOf(place));
        }

        void dropGoal(int monster) {
            monsters.set(monster, GOAL_COLUMN, NONE);
            monsters.set(monster, GOAL_ROW, NONE);
        }
    }

    /** Finds the cheapest ways through a dungeon: those of light, of sounds and of monsters. */
    private static final class Senses {
        private final int[] costs;
        // The cells whose neighbours have not yet been told of their cost.
        private final boolean[] news;
        private int lastTaken;

        Senses() {
            costs = new int[CELLS];
            news = new boolean[CELLS];
        }

        /** Sheds the light: the cells that have a cost then are the lit ones. */
        void shine(Dungeon dungeon) {
            forget();
            for (int torch = 0; torch < dungeon.torches.count; torch++) {
                if (dungeon.torches.get(torch, TORCH_LIT) == 1) {
                    offer(dungeon.torches.placeOf(torch), 0);
                }
            }
            if (dungeon.lit) {
                // The hero's light comes less far, as if it had gone some steps already.
                offer(dungeon.hero, TORCH_REACH - HERO_REACH);
            }
            spread(dungeon, FEET, TORCH_REACH);
        }

        boolean heroIsLit(Dungeon dungeon) {
            shine(dungeon);
            return costTo(dungeon.hero) != NONE;
        }

        /** Finds the costs of the ways between one cell and all others, the same both ways. */
        void measure(Dungeon dungeon, int place, int manner) {
            forget();
            offer(place, 0);
            spread(dungeon, manner, FAR);
        }

        /** Returns the cost that was found for a cell, NONE if there is no way. */
        int costTo(int place) {
            return place >= 0 && place < CELLS && costs[place] < FAR ? costs[place] : NONE;
        }

        /** Returns how loud a sound where measure() began must be for a monster to hear it. */
        int loudnessNeeded(Dungeon dungeon, int monster) {
            return costTo(dungeon.monsters.placeOf(monster)) + dungeon.monsters.get(monster, MONSTER_EAR);
        }

        /** Returns the first direction of the way to where measure() began, NONE without one. */
        int firstDirection(Dungeon dungeon, int from, int manner) {
            int cost = costTo(from);
            if (cost == NONE) {
                return NONE;
            }
            for (int direction = 0; direction < DIRECTIONS; direction++) {
                int price = dungeon.price(from, direction, manner);
                int rest = costTo(neighbour(from, direction));
                if (price != BLOCKED && rest != NONE && price + rest == cost) {
                    return direction;
                }
            }
            return NONE;
        }

        /** Tells whether a monster could see the hero if the hero's cell were lit. */
        boolean hasClearLine(Dungeon dungeon, int monster) {
            int place = dungeon.monsters.placeOf(monster);
            int direction = straightDirection(place, dungeon.hero);
            for (int steps = 0; steps <= SIGHT; steps++) {
                if (place == dungeon.hero) {
                    return true;
                }
                if (direction == NONE || !dungeon.canPass(place, direction)) {
                    return false;
                }
                place = neighbour(place, direction);
            }
            return false;
        }

        private static int straightDirection(int from, int to) {
            if (columnOf(from) == columnOf(to)) {
                return to < from ? NORTH : SOUTH;
            }
            if (rowOf(from) == rowOf(to)) {
                return to < from ? WEST : EAST;
            }
            return NONE;
        }

        private void forget() {
            for (int place = 0; place < CELLS; place++) {
                costs[place] = FAR;
                news[place] = false;
            }
        }

        private void offer(int place, int cost) {
            if (place >= 0 && place < CELLS && cost < costs[place]) {
                costs[place] = cost;
                news[place] = true;
            }
        }

        private void spread(Dungeon dungeon, int manner, int limit) {
            for (int taken = 0; taken < MOST_NEWS; taken++) {
                int place = takeNews();
                if (place == NONE) {
                    return;
                }
                int cost = costTo(place);
                for (int direction = 0; direction < DIRECTIONS; direction++) {
                    int price = dungeon.price(place, direction, manner);
                    if (price != BLOCKED && cost + price <= limit) {
                        offer(neighbour(place, direction), cost + price);
                    }
                }
            }
        }

        /** Takes the cells in turn, so that none is taken again before all others had theirs. */
        private int takeNews() {
            for (int looked = 0; looked < CELLS; looked++) {
                lastTaken = (lastTaken + 1) % CELLS;
                if (lastTaken >= 0 && news[lastTaken]) {
                    news[lastTaken] = false;
                    return lastTaken;
                }
            }
            return NONE;
        }
    }

    /** Knows which actions can be done, and plays a turn in a dungeon. */
    private static final class Turn {
        private final Senses senses;
        // All sounds of one turn are made in the same cell, so only the loudest one matters; no
        // sound has the loudness 0, which is below every ear.
        private int soundPlace;
        private int loudness;

        Turn() {
            senses = new Senses();
        }

        /** Returns the reason why an action cannot be done, POSSIBLE if it can. */
        int obstacle(Dungeon dungeon, int action) {
            if (dungeon.life <= 0) {
                return NO_LIFE;
            }
            if (action < FIRST_OPENING) {
                return dungeon.canPass(dungeon.hero, action) ? POSSIBLE : NO_PASSAGE;
            }
            if (action < FIRST_CLOSING) {
                return doorObstacle(dungeon, action % DIRECTIONS, OPEN);
            }
            if (action < WAIT) {
                return doorObstacle(dungeon, action % DIRECTIONS, CLOSED);
            }
            if (action == LIGHT) {
                return dungeon.fuel > 0 && !dungeon.lit ? POSSIBLE : NO_TORCHLIGHT;
            }
            if (action == PUT_OUT) {
                return dungeon.lit ? POSSIBLE : NO_TORCHLIGHT;
            }
            return POSSIBLE;
        }

        private static int doorObstacle(Dungeon dungeon, int direction, int wanted) {
            int door = dungeon.doorAt(dungeon.hero, direction);
            if (door == NONE) {
                return NO_DOOR;
            }
            int state = dungeon.doors.get(door, DOOR_STATE);
            if (state == LOCKED) {
                return DOOR_IS_LOCKED;
            }
            return state == wanted ? DOOR_IS_SO_ALREADY : POSSIBLE;
        }

        /** Plays a turn with an action that can be done. */
        void play(Dungeon dungeon, int action) {
            makeSound(dungeon.hero, 0);
            doAction(dungeon, action);
            if (action < FIRST_OPENING) {
                springTrap(dungeon);
            }
            burnTorches(dungeon);
            setGoals(dungeon);
            for (int monster = 0; monster < dungeon.monsters.count; monster++) {
                moveMonster(dungeon, monster);
            }
            hurtHero(dungeon);
            workSprings(dungeon);
            dungeon.turns++;
        }

        private void doAction(Dungeon dungeon, int action) {
            int direction = action % DIRECTIONS;
            if (action < FIRST_OPENING) {
                dungeon.passBorder(dungeon.hero, direction, 0);
                dungeon.hero = neighbour(dungeon.hero, direction);
                makeSound(dungeon.hero, STEP_LOUDNESS);
            } else if (action < FIRST_CLOSING) {
                swingDoor(dungeon, direction, OPEN);
            } else if (action < WAIT) {
                swingDoor(dungeon, direction, CLOSED);
            } else if (action == LIGHT) {
                dungeon.lit = true;
            } else if (action == PUT_OUT) {
                dungeon.lit = false;
            } else if (action == THROW) {
                makeSound(stonePlace(dungeon), STONE_LOUDNESS);
            }
        }

        private void makeSound(int place, int newLoudness) {
            soundPlace = place;
            loudness = newLoudness;
        }

        private void swingDoor(Dungeon dungeon, int direction, int state) {
            int door = dungeon.doorAt(dungeon.hero, direction);
            dungeon.turnDoor(door, state);
            makeSound(dungeon.hero, dungeon.doors.get(door, DOOR_CREAK));
        }

        private static int stonePlace(Dungeon dungeon) {
            int place = dungeon.hero;
            for (int steps = 0; steps < STONE_REACH && dungeon.canPass(place, EAST); steps++) {
                place = neighbour(place, EAST);
            }
            return place;
        }

        private void springTrap(Dungeon dungeon) {
            int trap = dungeon.traps.firstIn(dungeon.hero);
            if (trap != NONE && dungeon.traps.get(trap, TRAP_SET) > 0) {
                dungeon.traps.raise(trap, TRAP_SET, -1);
                dungeon.traps.raise(trap, TRAP_SPRUNG, 1);
                dungeon.loseLife();
                makeSound(dungeon.hero, TRAP_LOUDNESS);
            }
        }

        private static void burnTorches(Dungeon dungeon) {
            if (dungeon.lit) {
                dungeon.fuel--;
                dungeon.lit = dungeon.fuel > 0;
            }
            for (int torch = 0; torch < dungeon.torches.count; torch++) {
                if (dungeon.torches.get(torch, TORCH_LIT) == 1) {
                    dungeon.torches.raise(torch, TORCH_FUEL, -1);
                    dungeon.torches.set(torch, TORCH_LIT, dungeon.torches.get(torch, TORCH_FUEL) > 0 ? 1 : 0);
                }
            }
        }

        private void setGoals(Dungeon dungeon) {
            // First the light, then the sound: the senses hold only one of them.
            boolean lit = senses.heroIsLit(dungeon);
            senses.measure(dungeon, soundPlace, SOUND);
            for (int monster = 0; monster < dungeon.monsters.count; monster++) {
                if (lit && senses.hasClearLine(dungeon, monster)) {
                    dungeon.setGoal(monster, dungeon.hero);
                } else if (loudness >= senses.loudnessNeeded(dungeon, monster)) {
                    dungeon.setGoal(monster, soundPlace);
                }
            }
        }

        private void moveMonster(Dungeon dungeon, int monster) {
            if (!dungeon.hasGoal(monster)) {
                return;
            }
            int place = dungeon.monsters.placeOf(monster);
            int kind = dungeon.monsters.get(monster, MONSTER_KIND);
            senses.measure(dungeon, dungeon.goalOf(monster), kind);
            int direction = senses.firstDirection(dungeon, place, kind);
            if (direction == NONE) {
                // It is in its goal, or there is no way.
                dungeon.dropGoal(monster);
            } else if (dungeon.canPass(place, direction)) {
                dungeon.passBorder(place, direction, 1 + monster);
                dungeon.monsters.move(monster, neighbour(place, direction));
            } else {
                dungeon.turnDoor(dungeon.doorAt(place, direction), OPEN);
            }
        }

        private static void hurtHero(Dungeon dungeon) {
            for (int monster = 0; monster < dungeon.monsters.count; monster++) {
                if (dungeon.monsters.placeOf(monster) == dungeon.hero) {
                    dungeon.monsters.raise(monster, MONSTER_HURTS, 1);
                    dungeon.loseLife();
                }
            }
        }

        private static void workSprings(Dungeon dungeon) {
            for (int door = 0; door < dungeon.doors.count; door++) {
                boolean open = dungeon.doors.get(door, DOOR_STATE) == OPEN;
                if (open && dungeon.doors.get(door, DOOR_SPRING) > 0) {
                    dungeon.doors.raise(door, DOOR_LEFT, -1);
                    if (dungeon.doors.get(door, DOOR_LEFT) <= 0) {
                        dungeon.turnDoor(door, CLOSED);
                    }
                }
            }
        }
    }

    /** The action text, and a reader that goes through its orders. */
    private static final class ActionText {
        private final byte[] bytes;
        private int length;
        private int position;
        // What was read last: an action and how often it is done, or where the fault is.
        private int action;
        private int times;
        private int fault;

        ActionText() {
            bytes = new byte[TEXT_LENGTH];
        }

        void append(int value) {
            if (length >= 0 && length < TEXT_LENGTH) {
                bytes[length] = (byte) value;
                length++;
            }
        }

        void rewind() {
            position = 0;
            fault = NONE;
        }

        int findFault() {
            rewind();
            int orders = 0;
            while (orders < TEXT_LENGTH && readNext()) {
                orders++;
            }
            return fault;
        }

        /** Reads an order; returns false at the end of the text, and at a fault. */
        boolean readNext() {
            if (position >= length) {
                return false;
            }
            int number = 0;
            int index = position;
            while (index < position + NUMBER_DIGITS && isDigit(index)) {
                number = number * 10 + byteAt(index) - '0';
                index++;
            }
            if (isDigit(index)) {
                return stopAt(index);
            }
            boolean hasNumber = index > position;
            if (hasNumber && (number < 1 || number > MOST_TIMES)) {
                return stopAt(position);
            }
            times = hasNumber ? number : 1;
            return readAction(index);
        }

        private boolean readAction(int index) {
            int letter = byteAt(index);
            int letters = 1;
            if (letter == 'o' || letter == 'c') {
                int direction = directionOf(byteAt(index + 1));
                if (direction == NONE) {
                    return stopAt(index + 1);
                }
                action = (letter == 'o' ? FIRST_OPENING : FIRST_CLOSING) + direction;
                letters = 2;
            } else {
                action = singleAction(letter);
                if (action == NONE) {
                    return stopAt(index);
                }
            }
            position = index + letters;
            return true;
        }

        private boolean stopAt(int index) {
            fault = index;
            return false;
        }

        private boolean isDigit(int index) {
            int letter = byteAt(index);
            return letter >= '0' && letter <= '9';
        }

        /** Returns NONE behind the end of the text, which is no letter. */
        private int byteAt(int index) {
            return index >= 0 && index < length && index < TEXT_LENGTH ? bytes[index] : NONE;
        }

        private static int singleAction(int letter) {
            switch (letter) {
                case '.': return WAIT;
                case 'l': return LIGHT;
                case 'x': return PUT_OUT;
                case 't': return THROW;
                default: return directionOf(letter);
            }
        }

        private static int directionOf(int letter) {
            switch (letter) {
                case 'n': return NORTH;
                case 'e': return EAST;
                case 's': return SOUTH;
                case 'w': return WEST;
                default: return NONE;
            }
        }
    }

    /** The undo stack: the latest saved states, in a ring. */
    private static final class History {
        private final Dungeon[] states;
        private int next;
        private int count;

        History() {
            states = new Dungeon[SAVED_STATES];
            for (int index = 0; index < SAVED_STATES; index++) {
                states[index] = new Dungeon();
            }
        }

        void save(Dungeon dungeon) {
            Dungeon state = stateAt(next);
            if (state != null) {
                state.copyFrom(dungeon);
                next = (next + 1) % SAVED_STATES;
                count = Math.min(count + 1, SAVED_STATES);
            }
        }

        /** The caller has looked whether there is a saved state. */
        void restore(Dungeon dungeon) {
            next = (next + SAVED_STATES - 1) % SAVED_STATES;
            count--;
            Dungeon state = stateAt(next);
            if (state != null) {
                dungeon.copyFrom(state);
            }
        }

        private Dungeon stateAt(int index) {
            return index >= 0 && index < SAVED_STATES ? states[index] : null;
        }
    }
}
