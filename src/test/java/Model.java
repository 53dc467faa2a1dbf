import java.util.ArrayDeque;
import java.util.ArrayList;
import java.util.Arrays;
import java.util.Deque;
import java.util.HashSet;
import java.util.List;
import java.util.Set;

/**
 * The document once more, written with other means than the program and without care for speed:
 * ModelTest compares the answers of both. Each part follows the words of the document.
 */
final class Model {
    private static final int[] DX = {0, 1, 0, -1};
    private static final int[] DY = {-1, 0, 1, 0};

    private static final class Door {
        int x, y, side, state, spring, creak, last = -1, passed, left;
    }

    private static final class Torch {
        int x, y, fuel;
        boolean lit;
    }

    private static final class Monster {
        int x, y, ear, kind, hurts;
        int goalX = -1, goalY = -1;
    }

    private static final class Trap {
        int x, y, set, sprung;
    }

    private static final class State {
        int columns = 5, rows = 4, x, y, life = 5, fuel = 20, turns;
        boolean lit;
        Set<String> walls = new HashSet<>();
        List<Door> doors = new ArrayList<>();
        List<Torch> torches = new ArrayList<>();
        List<Monster> monsters = new ArrayList<>();
        List<Trap> traps = new ArrayList<>();

        State copy() {
            State c = new State();
            c.columns = columns;
            c.rows = rows;
            c.x = x;
            c.y = y;
            c.life = life;
            c.fuel = fuel;
            c.turns = turns;
            c.lit = lit;
            c.walls.addAll(walls);
            for (Door o : doors) {
                Door d = new Door();
                d.x = o.x; d.y = o.y; d.side = o.side; d.state = o.state; d.spring = o.spring;
                d.creak = o.creak; d.last = o.last; d.passed = o.passed; d.left = o.left;
                c.doors.add(d);
            }
            for (Torch o : torches) {
                Torch t = new Torch();
                t.x = o.x; t.y = o.y; t.fuel = o.fuel; t.lit = o.lit;
                c.torches.add(t);
            }
            for (Monster o : monsters) {
                Monster m = new Monster();
                m.x = o.x; m.y = o.y; m.ear = o.ear; m.kind = o.kind; m.hurts = o.hurts;
                m.goalX = o.goalX; m.goalY = o.goalY;
                c.monsters.add(m);
            }
            for (Trap o : traps) {
                Trap t = new Trap();
                t.x = o.x; t.y = o.y; t.set = o.set; t.sprung = o.sprung;
                c.traps.add(t);
            }
            return c;
        }

        boolean inside(int cx, int cy) {
            return cx >= 0 && cy >= 0 && cx < columns && cy < rows;
        }

        /** 0 free, 1 wall, 2 + n door. */
        int border(int cx, int cy, int direction) {
            int ox = cx + DX[direction];
            int oy = cy + DY[direction];
            if (!inside(ox, oy)) {
                return 1;
            }
            int side = direction % 2 == 1 ? 1 : 2;
            int bx = Math.min(cx, ox);
            int by = Math.min(cy, oy);
            for (int n = 0; n < doors.size(); n++) {
                Door d = doors.get(n);
                if (d.x == bx && d.y == by && d.side == side) {
                    return 2 + n;
                }
            }
            return walls.contains(bx + "," + by + "," + side) ? 1 : 0;
        }

        boolean passable(int cx, int cy, int direction) {
            int b = border(cx, cy, direction);
            return b == 0 || b >= 2 && doors.get(b - 2).state == 1;
        }

        /** The costs from a cell to all; what: 0 and 1 kinds of monsters, 2 a sound; -1 no way. */
        int[][] costs(int cx, int cy, int what) {
            int[][] cost = new int[columns][rows];
            for (int[] column : cost) {
                Arrays.fill(column, -1);
            }
            cost[cx][cy] = 0;
            boolean changed = true;
            while (changed) {
                changed = false;
                for (int x1 = 0; x1 < columns; x1++) {
                    for (int y1 = 0; y1 < rows; y1++) {
                        for (int d = 0; d < 4 && cost[x1][y1] >= 0; d++) {
                            int x2 = x1 + DX[d];
                            int y2 = y1 + DY[d];
                            int p = price(x1, y1, d, what);
                            if (p > 0 && (cost[x2][y2] < 0 || cost[x2][y2] > cost[x1][y1] + p)) {
                                cost[x2][y2] = cost[x1][y1] + p;
                                changed = true;
                            }
                        }
                    }
                }
            }
            return cost;
        }

        int price(int cx, int cy, int d, int what) {
            if (!inside(cx + DX[d], cy + DY[d])) {
                return 0;
            }
            if (passable(cx, cy, d)) {
                return 1;
            }
            int b = border(cx, cy, d);
            if (what == 2) {
                return b == 1 ? 7 : 4;
            }
            return what == 1 && b >= 2 && doors.get(b - 2).state == 0 ? 2 : 0;
        }

        boolean isLit(int cx, int cy) {
            int[][] steps = costs(cx, cy, 0);
            for (Torch t : torches) {
                if (t.lit && steps[t.x][t.y] >= 0 && steps[t.x][t.y] <= 3) {
                    return true;
                }
            }
            return lit && steps[x][y] >= 0 && steps[x][y] <= 2;
        }

        boolean sees(Monster m) {
            if (!isLit(x, y) || m.x != x && m.y != y || Math.abs(m.x - x) + Math.abs(m.y - y) > 8) {
                return false;
            }
            for (int cx = Math.min(x, m.x); cx < Math.max(x, m.x); cx++) {
                if (!passable(cx, y, 1)) {
                    return false;
                }
            }
            for (int cy = Math.min(y, m.y); cy < Math.max(y, m.y); cy++) {
                if (!passable(x, cy, 2)) {
                    return false;
                }
            }
            return true;
        }

        int firstStep(Monster m, int gx, int gy) {
            int[][] cost = costs(gx, gy, m.kind);
            if (m.x == gx && m.y == gy || cost[m.x][m.y] < 0) {
                return -1;
            }
            for (int d = 0; d < 4; d++) {
                int p = price(m.x, m.y, d, m.kind);
                if (p > 0 && cost[m.x + DX[d]][m.y + DY[d]] + p == cost[m.x][m.y]) {
                    return d;
                }
            }
            throw new AssertionError("a way without a first step");
        }

        int reason(int action) {
            if (life == 0) {
                return 1;
            }
            if (action < 4) {
                return passable(x, y, action) ? 0 : 2;
            }
            if (action < 12) {
                int b = border(x, y, action % 4);
                if (b < 2) {
                    return 3;
                }
                int state = doors.get(b - 2).state;
                return state == 2 ? 4 : (state == 1) == (action < 8) ? 5 : 0;
            }
            if (action == 13) {
                return fuel == 0 || lit ? 6 : 0;
            }
            return action == 14 && !lit ? 6 : 0;
        }

        void swing(Door d, int state) {
            d.state = state;
            d.left = state == 1 ? d.spring : 0;
        }

        void pass(int cx, int cy, int d, int who) {
            int b = border(cx, cy, d);
            if (b >= 2) {
                doors.get(b - 2).last = who;
                doors.get(b - 2).passed++;
            }
        }

        void turn(int action) {
            List<int[]> sounds = new ArrayList<>();
            act(action, sounds);
            if (action < 4) {
                for (Trap t : traps) {
                    if (t.x == x && t.y == y && t.set > 0) {
                        t.set--;
                        t.sprung++;
                        life = life > 0 ? life - 1 : 0;
                        sounds.add(new int[] {x, y, 9});
                    }
                }
            }
            burn();
            for (Monster m : monsters) {
                listen(m, sounds);
            }
            for (int n = 0; n < monsters.size(); n++) {
                go(monsters.get(n), 1 + n);
            }
            for (Monster m : monsters) {
                if (m.x == x && m.y == y) {
                    m.hurts++;
                    life = life > 0 ? life - 1 : 0;
                }
            }
            for (Door d : doors) {
                if (d.state == 1 && d.spring > 0) {
                    d.left--;
                    if (d.left == 0) {
                        d.state = 0;
                    }
                }
            }
            turns++;
        }

        void act(int action, List<int[]> sounds) {
            if (action < 4) {
                pass(x, y, action, 0);
                x += DX[action];
                y += DY[action];
                sounds.add(new int[] {x, y, 3});
            } else if (action < 12) {
                Door d = doors.get(border(x, y, action % 4) - 2);
                swing(d, action < 8 ? 1 : 0);
                sounds.add(new int[] {x, y, d.creak});
            } else if (action == 13) {
                lit = true;
            } else if (action == 14) {
                lit = false;
            } else if (action == 15) {
                int sx = x;
                while (sx < x + 3 && passable(sx, y, 1)) {
                    sx++;
                }
                sounds.add(new int[] {sx, y, 7});
            }
        }

        void burn() {
            if (lit) {
                fuel--;
                lit = fuel != 0;
            }
            for (Torch t : torches) {
                if (t.lit) {
                    t.fuel--;
                    t.lit = t.fuel != 0;
                }
            }
        }

        void listen(Monster m, List<int[]> sounds) {
            if (sees(m)) {
                m.goalX = x;
                m.goalY = y;
                return;
            }
            int loudest = 0;
            for (int[] sound : sounds) {
                int heard = sound[2] - costs(sound[0], sound[1], 2)[m.x][m.y];
                if (heard >= m.ear && heard >= loudest) {
                    loudest = heard;
                    m.goalX = sound[0];
                    m.goalY = sound[1];
                }
            }
        }

        void go(Monster m, int who) {
            if (m.goalX < 0) {
                return;
            }
            int d = firstStep(m, m.goalX, m.goalY);
            if (d < 0) {
                m.goalX = -1;
                m.goalY = -1;
                return;
            }
            if (!passable(m.x, m.y, d)) {
                swing(doors.get(border(m.x, m.y, d) - 2), 1);
                return;
            }
            pass(m.x, m.y, d, who);
            m.x += DX[d];
            m.y += DY[d];
        }
    }

    private State s = new State();
    private final Deque<State> saved = new ArrayDeque<>();
    private String text = "";

    private void save() {
        saved.push(s.copy());
        if (saved.size() > 4) {
            saved.removeLast();
        }
    }

    private static void bounds(boolean fine) {
        if (!fine) {
            throw new IndexOutOfBoundsException();
        }
    }

    private static void argument(boolean fine) {
        if (!fine) {
            throw new IllegalArgumentException();
        }
    }

    private static void state(boolean fine) {
        if (!fine) {
            throw new IllegalStateException();
        }
    }

    private static boolean in(int value, int least, int most) {
        return least <= value && value <= most;
    }

    private void checkBorder(int x, int y, int side) {
        bounds(s.inside(x, y));
        argument(side == 1 || side == 2);
        argument(s.inside(x + DX[side], y + DY[side]));
    }

    int begin(int columns, int rows) {
        argument(in(columns, 1, 8) && in(rows, 1, 6));
        save();
        int turns = s.turns;
        s = new State();
        s.columns = columns;
        s.rows = rows;
        return turns;
    }

    int setWall(int x, int y, int side, boolean wall) {
        checkBorder(x, y, side);
        int before = s.border(x, y, side);
        state(before < 2);
        save();
        String key = x + "," + y + "," + side;
        if (wall) {
            s.walls.add(key);
        } else {
            s.walls.remove(key);
        }
        return before;
    }

    int addDoor(int x, int y, int side, int spring, int creak) {
        checkBorder(x, y, side);
        argument(in(spring, 0, 9) && in(creak, 0, 9));
        state(s.border(x, y, side) < 2 && s.doors.size() < 10);
        save();
        Door d = new Door();
        d.x = x;
        d.y = y;
        d.side = side;
        d.spring = spring;
        d.creak = creak;
        s.doors.add(d);
        return s.doors.size() - 1;
    }

    int setDoor(int door, int state) {
        bounds(in(door, 0, s.doors.size() - 1));
        argument(in(state, 0, 2));
        save();
        int before = s.doors.get(door).state;
        s.swing(s.doors.get(door), state);
        return before;
    }

    int addTorch(int x, int y, int fuel) {
        bounds(s.inside(x, y));
        argument(in(fuel, 0, 99));
        state(s.torches.size() < 6);
        save();
        Torch t = new Torch();
        t.x = x;
        t.y = y;
        t.fuel = fuel;
        t.lit = fuel > 0;
        s.torches.add(t);
        return s.torches.size() - 1;
    }

    int addMonster(int x, int y, int ear, int kind) {
        bounds(s.inside(x, y));
        argument(in(ear, 1, 9) && in(kind, 0, 1));
        state(s.monsters.size() < 6);
        save();
        Monster m = new Monster();
        m.x = x;
        m.y = y;
        m.ear = ear;
        m.kind = kind;
        s.monsters.add(m);
        return s.monsters.size() - 1;
    }

    private int trapIn(int x, int y) {
        for (int n = 0; n < s.traps.size(); n++) {
            if (s.traps.get(n).x == x && s.traps.get(n).y == y) {
                return n;
            }
        }
        return -1;
    }

    int setTrap(int x, int y) {
        bounds(s.inside(x, y));
        state(trapIn(x, y) >= 0 || s.traps.size() < 6);
        save();
        if (trapIn(x, y) < 0) {
            Trap t = new Trap();
            t.x = x;
            t.y = y;
            s.traps.add(t);
        }
        s.traps.get(trapIn(x, y)).set = 2;
        return trapIn(x, y);
    }

    int placeHero(int x, int y, int life, int fuel) {
        bounds(s.inside(x, y));
        argument(in(life, 0, 9) && in(fuel, 0, 99));
        save();
        s.x = x;
        s.y = y;
        s.life = life;
        s.fuel = fuel;
        s.lit = s.lit && fuel > 0;
        return s.isLit(x, y) ? 1 : 0;
    }

    int act(int action) {
        argument(in(action, 0, 15));
        state(s.reason(action) == 0);
        save();
        s.turn(action);
        return s.life;
    }

    int reason(int action) {
        argument(in(action, 0, 15));
        return s.reason(action);
    }

    int border(int x, int y, int direction) {
        bounds(s.inside(x, y));
        argument(in(direction, 0, 3));
        return s.border(x, y, direction);
    }

    int cell(int x, int y, int what) {
        bounds(s.inside(x, y));
        argument(in(what, 0, 3));
        int value = 0;
        if (what == 0) {
            return s.isLit(x, y) ? 1 : 0;
        }
        if (what == 2) {
            return trapIn(x, y);
        }
        if (what == 3) {
            for (Torch t : s.torches) {
                value += t.x == x && t.y == y ? 1 : 0;
            }
            return value;
        }
        for (int n = 0; n < s.monsters.size(); n++) {
            value += s.monsters.get(n).x == x && s.monsters.get(n).y == y ? 1 << n : 0;
        }
        return value;
    }

    int door(int door, int what) {
        bounds(in(door, 0, s.doors.size() - 1));
        argument(in(what, 0, 5));
        Door d = s.doors.get(door);
        return new int[] {d.state, d.spring, d.creak, d.last, d.passed, d.left}[what];
    }

    int torch(int torch, int what) {
        bounds(in(torch, 0, s.torches.size() - 1));
        argument(in(what, 0, 3));
        Torch t = s.torches.get(torch);
        return new int[] {t.x, t.y, t.fuel, t.lit ? 1 : 0}[what];
    }

    int monster(int monster, int what) {
        bounds(in(monster, 0, s.monsters.size() - 1));
        argument(in(what, 0, 7));
        Monster m = s.monsters.get(monster);
        return new int[] {m.x, m.y, m.ear, m.kind, m.goalX, m.goalY, s.sees(m) ? 1 : 0, m.hurts}[what];
    }

    int trap(int trap, int what) {
        bounds(in(trap, 0, s.traps.size() - 1));
        argument(in(what, 0, 3));
        Trap t = s.traps.get(trap);
        return new int[] {t.x, t.y, t.set, t.sprung}[what];
    }

    int whole(int what) {
        argument(in(what, 0, 13));
        int lit = 0;
        for (int x = 0; x < s.columns && what == 12; x++) {
            for (int y = 0; y < s.rows; y++) {
                lit += s.isLit(x, y) ? 1 : 0;
            }
        }
        return new int[] {s.columns, s.rows, s.doors.size(), s.torches.size(), s.monsters.size(),
            s.traps.size(), s.x, s.y, s.life, s.fuel, s.lit ? 1 : 0, s.turns, lit, text.length()}[what];
    }

    int soundCost(int x, int y, int u, int v) {
        bounds(s.inside(x, y) && s.inside(u, v));
        return s.costs(x, y, 2)[u][v];
    }

    int hearers(int x, int y, int loudness) {
        bounds(s.inside(x, y));
        argument(in(loudness, 0, 99));
        int set = 0;
        for (int n = 0; n < s.monsters.size(); n++) {
            Monster m = s.monsters.get(n);
            set += loudness - s.costs(x, y, 2)[m.x][m.y] >= m.ear ? 1 << n : 0;
        }
        return set;
    }

    int way(int monster, int x, int y) {
        bounds(in(monster, 0, s.monsters.size() - 1));
        bounds(s.inside(x, y));
        Monster m = s.monsters.get(monster);
        return s.costs(m.x, m.y, m.kind)[x][y];
    }

    int nextStep(int monster) {
        bounds(in(monster, 0, s.monsters.size() - 1));
        return s.firstStep(s.monsters.get(monster), s.x, s.y);
    }

    int safeTimes(int action) {
        argument(in(action, 0, 15));
        State before = s.copy();
        int times = 0;
        while (times < 30 && s.reason(action) == 0) {
            s.turn(action);
            if (s.life < before.life) {
                break;
            }
            times++;
        }
        s = before;
        return times;
    }

    int quiet(int x, int y) {
        bounds(s.inside(x, y));
        int loudness = 99;
        while (hearers(x, y, loudness) != 0) {
            loudness--;
        }
        return loudness;
    }

    int type(int value) {
        argument(in(value, 0, 127));
        state(text.length() < 120);
        text += (char) value;
        return text.length();
    }

    int clearActions() {
        int length = text.length();
        text = "";
        return length;
    }

    /** Reads byte by byte; puts the actions into the list; returns the fault or -1. */
    private int read(List<Integer> actions) {
        int digits = 0;
        int number = 0;
        int first = 0;
        char swing = ' ';
        for (int i = 0; i <= text.length(); i++) {
            char c = i < text.length() ? text.charAt(i) : '$';
            if (swing == ' ' && c >= '0' && c <= '9') {
                if (digits == 2) {
                    return i;
                }
                first = digits == 0 ? i : first;
                number = number * 10 + (c - '0');
                digits++;
                continue;
            }
            if (swing == ' ' && digits > 0 && (number == 0 || number > 20)) {
                return first;
            }
            if (i == text.length()) {
                return digits > 0 || swing != ' ' ? i : -1;
            }
            if (swing == ' ' && (c == 'o' || c == 'c')) {
                swing = c;
                continue;
            }
            int found = swing == ' ' ? "nesw........".indexOf(c) : "nesw".indexOf(c);
            found = swing == ' ' && ".lxt".indexOf(c) >= 0 ? 12 + ".lxt".indexOf(c) : found;
            if (found < 0) {
                return i;
            }
            int action = swing == 'o' ? 4 + found : swing == 'c' ? 8 + found : found;
            for (int n = 0; n < (digits == 0 ? 1 : number); n++) {
                actions.add(action);
            }
            digits = 0;
            number = 0;
            swing = ' ';
        }
        throw new AssertionError("the text has no end");
    }

    int runActions() {
        List<Integer> actions = new ArrayList<>();
        int fault = read(actions);
        if (fault >= 0) {
            return -10 - fault;
        }
        save();
        int made = 0;
        for (int action : actions) {
            if (s.reason(action) != 0) {
                break;
            }
            s.turn(action);
            made++;
        }
        return made;
    }

    int undo() {
        state(!saved.isEmpty());
        s = saved.pop();
        return saved.size();
    }

    long digest() {
        List<Integer> values = new ArrayList<>();
        values.add(saved.size());
        for (int what = 0; what < 14; what++) {
            values.add(whole(what));
        }
        for (int y = 0; y < s.rows; y++) {
            for (int x = 0; x < s.columns; x++) {
                values.addAll(Arrays.asList(border(x, y, 1), border(x, y, 2)));
                values.addAll(Arrays.asList(cell(x, y, 0), cell(x, y, 1), cell(x, y, 2), cell(x, y, 3)));
            }
        }
        for (int n = 0; n < s.doors.size(); n++) {
            for (int what = 0; what < 6; what++) {
                values.add(door(n, what));
            }
        }
        for (int n = 0; n < s.torches.size(); n++) {
            for (int what = 0; what < 4; what++) {
                values.add(torch(n, what));
            }
        }
        for (int n = 0; n < s.monsters.size(); n++) {
            for (int what = 0; what < 8; what++) {
                values.add(monster(n, what));
            }
            values.add(nextStep(n));
        }
        for (int n = 0; n < s.traps.size(); n++) {
            for (int what = 0; what < 4; what++) {
                values.add(trap(n, what));
            }
        }
        for (int action = 0; action < 16; action++) {
            values.add(reason(action));
        }
        long h = 43332;
        for (int v : values) {
            h = 31 * h + v;
        }
        return h;
    }
}
