import java.util.ArrayList;
import java.util.List;
import java.util.PriorityQueue;

/**
 * The document once more, written in another way than the class, and with the Java library: objects, queues and
 * copies. ModelTest compares both.
 */
final class Model {
    static final class Creature {
        int side;
        int x;
        int y;
        int life;
        int most;
        int force = 5;
        int guard = 2;
        int speed = 2;
        int mana = 3;
        int time;
        int[] stack = new int[5];
        int[] turns = new int[5];

        boolean dead() {
            return life == 0;
        }

        boolean afraid() {
            return 3 * life < most;
        }

        Creature copy() {
            Creature c = new Creature();
            c.side = side;
            c.x = x;
            c.y = y;
            c.life = life;
            c.most = most;
            c.force = force;
            c.guard = guard;
            c.speed = speed;
            c.mana = mana;
            c.time = time;
            c.stack = stack.clone();
            c.turns = turns.clone();
            return c;
        }
    }

    static final class Game {
        char[][] map = new char[10][16];
        boolean[][][] known = new boolean[2][10][16];
        List<Creature> creatures = new ArrayList<>();
        int actions;
        int hits;

        Game copy() {
            Game g = new Game();
            for (int y = 0; y < 10; y++) {
                g.map[y] = map[y].clone();
                g.known[0][y] = known[0][y].clone();
                g.known[1][y] = known[1][y].clone();
            }
            for (Creature c : creatures) {
                g.creatures.add(c.copy());
            }
            g.actions = actions;
            g.hits = hits;
            return g;
        }
    }

    private static final int[] DX = {0, 1, 0, -1};
    private static final int[] DY = {-1, 0, 1, 0};
    private static final String KINDS = ".#+~";

    private Game game = new Game();
    private final List<Game> saved = new ArrayList<>();

    Model() {
        for (char[] row : game.map) {
            java.util.Arrays.fill(row, '#');
        }
    }

    private static boolean rim(int x, int y) {
        return x == 0 || x == 15 || y == 0 || y == 9;
    }

    private static void needCell(int cell) {
        if (cell < 0 || cell > 159) {
            throw new IndexOutOfBoundsException();
        }
    }

    private Creature need(int being) {
        if (being < 0 || being >= game.creatures.size()) {
            throw new IndexOutOfBoundsException();
        }
        return game.creatures.get(being);
    }

    private static void need(int value, int least, int most) {
        if (value < least || value > most) {
            throw new IllegalArgumentException();
        }
    }

    private static void needState(boolean holds) {
        if (!holds) {
            throw new IllegalStateException();
        }
    }

    private Creature standing(int x, int y) {
        for (Creature c : game.creatures) {
            if (!c.dead() && c.x == x && c.y == y) {
                return c;
            }
        }
        return null;
    }

    int dig(int x, int y, int width, int height) {
        need(x, 0, 15);
        need(y, 0, 9);
        need(width, 1, 16 - x);
        need(height, 1, 10 - y);
        int n = 0;
        for (int r = y; r < y + height; r++) {
            for (int c = x; c < x + width; c++) {
                if (!rim(c, r) && game.map[r][c] != '.') {
                    game.map[r][c] = '.';
                    n++;
                }
            }
        }
        return n;
    }

    int set(int cell, int kind) {
        needCell(cell);
        need(kind, 0, 3);
        int x = cell % 16;
        int y = cell / 16;
        if (rim(x, y)) {
            need(kind, 1, 1);
        }
        needState(kind == 0 || kind == 3 || standing(x, y) == null);
        int before = cell(cell);
        game.map[y][x] = KINDS.charAt(kind);
        return before;
    }

    int cell(int cell) {
        needCell(cell);
        return KINDS.indexOf(game.map[cell / 16][cell % 16]);
    }

    int on(int cell) {
        needCell(cell);
        return game.creatures.indexOf(standing(cell % 16, cell / 16));
    }

    boolean sees(int one, int other) {
        needCell(one);
        needCell(other);
        return sees(one % 16, one / 16, other % 16, other / 16);
    }

    private static int apart(int ax, int ay, int bx, int by) {
        return Math.max(Math.abs(ax - bx), Math.abs(ay - by));
    }

    private boolean sees(int ax, int ay, int bx, int by) {
        int n = apart(ax, ay, bx, by);
        if (n > 7) {
            return false;
        }
        for (int k = 1; k <= n - 1; k++) {
            // With n up to 7 what is no half is farther from one than a double is from what it stands for.
            int x = ax + (int) Math.floor(k * (bx - ax) / (double) n + 0.5 + 1e-9);
            int y = ay + (int) Math.floor(k * (by - ay) / (double) n + 0.5 + 1e-9);
            if (game.map[y][x] == '#' || game.map[y][x] == '+') {
                return false;
            }
        }
        return true;
    }

    boolean knows(int side, int cell) {
        need(side, 0, 1);
        needCell(cell);
        return game.known[side][cell / 16][cell % 16];
    }

    private void learn(Creature c) {
        for (int y = 0; y < 10; y++) {
            for (int x = 0; x < 16; x++) {
                game.known[c.side][y][x] |= sees(c.x, c.y, x, y);
            }
        }
    }

    int come(int side, int cell, int life) {
        needCell(cell);
        need(side, 0, 1);
        need(life, 1, 60);
        int kind = cell(cell);
        needState(kind == 0 || kind == 3);
        needState(on(cell) == -1 && game.creatures.size() < 10);
        Creature c = new Creature();
        c.side = side;
        c.x = cell % 16;
        c.y = cell / 16;
        c.life = life;
        c.most = life;
        Creature turn = turn();
        c.time = turn == null ? 0 : turn.time;
        game.creatures.add(c);
        learn(c);
        return game.creatures.size() - 1;
    }

    int become(int being, int force, int guard, int speed) {
        Creature c = need(being);
        need(force, 0, 20);
        need(guard, 0, 20);
        need(speed, 1, 4);
        int before = c.force;
        c.force = force;
        c.guard = guard;
        c.speed = speed;
        return before;
    }

    private static void comes(Creature c, int effect, int stack, int turns) {
        c.stack[effect] = Math.min(9, c.stack[effect] + stack);
        c.turns[effect] = Math.max(turns, c.turns[effect]);
    }

    int lay(int being, int effect, int stack, int turns) {
        Creature c = need(being);
        need(effect, 0, 4);
        need(stack, 1, 9);
        need(turns, 1, 20);
        needState(!c.dead());
        comes(c, effect, stack, turns);
        return c.stack[effect];
    }

    int of(int being, int what) {
        Creature c = need(being);
        need(what, 0, 9);
        int where = c.dead() ? -1 : c.y * 16 + c.x;
        int[] all = {c.side, where, c.life, c.most, c.force, c.guard, c.speed, c.mana, c.time, c.afraid() ? 1 : 0};
        return all[what];
    }

    int effect(int being, int effect, boolean isTurns) {
        Creature c = need(being);
        need(effect, 0, 4);
        return (isTurns ? c.turns : c.stack)[effect];
    }

    private Creature turn() {
        Creature best = null;
        for (Creature c : game.creatures) {
            if (!c.dead() && (best == null || c.time < best.time)) {
                best = c;
            }
        }
        return best;
    }

    private int alive(int side) {
        return (int) game.creatures.stream().filter(c -> !c.dead() && c.side == side).count();
    }

    private int knownBy(int side) {
        int n = 0;
        for (boolean[] row : game.known[side]) {
            for (boolean is : row) {
                n += is ? 1 : 0;
            }
        }
        return n;
    }

    int many(int what) {
        need(what, 0, 8);
        return new int[] {game.creatures.size(), alive(0), alive(1), game.creatures.indexOf(turn()), game.actions,
            game.hits, knownBy(0), knownBy(1), saved.size()}[what];
    }

    private Creature target(Creature c) {
        Creature best = null;
        if (!c.dead()) {
            for (Creature o : game.creatures) {
                boolean can = o.side != c.side && !o.dead() && sees(c.x, c.y, o.x, o.y);
                if (can && (best == null || apart(c.x, c.y, o.x, o.y) < apart(c.x, c.y, best.x, best.y))) {
                    best = o;
                }
            }
        }
        return best;
    }

    private Creature prey(Creature c) {
        Creature target = target(c);
        if (target != null) {
            return target;
        }
        return game.creatures.stream().filter(o -> o.side != c.side && !o.dead()).findFirst().orElse(null);
    }

    private boolean possible(Creature c, int action) {
        if (action == 0) {
            return true;
        }
        if (action <= 4) {
            int x = c.x + DX[action - 1];
            int y = c.y + DY[action - 1];
            Creature o = standing(x, y);
            return game.map[y][x] != '#' && !(o != null && o.side == c.side);
        }
        return c.mana >= 3 && (action != 5 || target(c) != null);
    }

    private static int hits(Creature c, Creature o) {
        return Math.max(1, c.force + c.stack[2] - (o.guard + o.stack[3]));
    }

    private int does(Creature c, int action) {
        int lost = 0;
        int time = 12 / c.speed * (c.stack[4] > 0 ? 2 : 1);
        if (action == 0) {
            c.mana = Math.min(9, c.mana + 1);
        } else if (action <= 4) {
            int x = c.x + DX[action - 1];
            int y = c.y + DY[action - 1];
            Creature o = standing(x, y);
            if (o != null) {
                lost = Math.min(hits(c, o), o.life);
                o.life -= lost;
                game.hits++;
            } else if (game.map[y][x] == '+') {
                game.map[y][x] = '.';
            } else {
                c.x = x;
                c.y = y;
            }
        } else {
            c.mana -= 3;
            switch (action) {
                case 5 -> comes(target(c), 0, 2, 3);
                case 6 -> comes(c, 3, 3, 4);
                default -> comes(c, 1, 2, 4);
            }
        }
        game.actions++;
        c.life = Math.max(0, c.life - c.stack[0]);
        if (!c.dead()) {
            c.life = Math.min(c.most, c.life + c.stack[1]);
        }
        for (int e = 0; e < 5; e++) {
            if (c.stack[e] > 0 && --c.turns[e] == 0) {
                c.stack[e] = 0;
            }
        }
        c.time += time;
        if (!c.dead()) {
            learn(c);
        }
        return lost;
    }

    int act(int action) {
        need(action, 0, 7);
        Creature c = turn();
        needState(c != null);
        needState(possible(c, action));
        return does(c, action);
    }

    int follow(int turns) {
        need(turns, 1, 40);
        int done = 0;
        while (done < turns && alive(0) > 0 && alive(1) > 0) {
            Creature c = turn();
            does(c, plan(c));
            done++;
        }
        return done;
    }

    int target(int being) {
        return game.creatures.indexOf(target(need(being)));
    }

    /** Forwards from (fx, fy), each CELL that is entered counted, as the document says it. */
    private int way(Creature c, int fx, int fy, int tx, int ty) {
        int[] least = new int[160];
        java.util.Arrays.fill(least, Integer.MAX_VALUE);
        PriorityQueue<int[]> open = new PriorityQueue<>((a, b) -> a[0] - b[0]);
        open.add(new int[] {0, fx, fy});
        least[fy * 16 + fx] = 0;
        while (!open.isEmpty()) {
            int[] at = open.remove();
            if (at[1] == tx && at[2] == ty) {
                return at[0];
            }
            for (int d = 0; d < 4; d++) {
                int x = at[1] + DX[d];
                int y = at[2] + DY[d];
                if (x < 0 || x > 15 || y < 0 || y > 9 || game.map[y][x] == '#') {
                    continue;
                }
                Creature o = standing(x, y);
                if (o != null && o != c && !(x == tx && y == ty)) {
                    continue;
                }
                int long_ = at[0] + (game.map[y][x] == '.' ? 1 : 2);
                if (long_ < least[y * 16 + x]) {
                    least[y * 16 + x] = long_;
                    open.add(new int[] {long_, x, y});
                }
            }
        }
        return -1;
    }

    int way(int being, int cell) {
        Creature c = need(being);
        needCell(cell);
        return c.dead() ? -1 : way(c, c.x, c.y, cell % 16, cell / 16);
    }

    private int worth(Creature c, int action) {
        if (c.dead() || !possible(c, action)) {
            return -1000;
        }
        if (action == 0) {
            return 1;
        }
        if (action == 5) {
            return 14 - target(c).stack[0];
        }
        if (action == 6) {
            boolean beside = false;
            for (int d = 0; d < 4; d++) {
                Creature o = standing(c.x + DX[d], c.y + DY[d]);
                beside |= o != null && o.side != c.side;
            }
            return c.afraid() || beside ? 24 - 3 * c.stack[3] : 0;
        }
        if (action == 7) {
            return c.most - c.life - 2 * c.stack[1];
        }
        int x = c.x + DX[action - 1];
        int y = c.y + DY[action - 1];
        Creature o = standing(x, y);
        if (o != null) {
            return 20 + 3 * hits(c, o) + (hits(c, o) >= o.life ? 30 : 0);
        }
        if (game.map[y][x] == '+') {
            return 6;
        }
        Creature prey = prey(c);
        if (prey == null) {
            return 0;
        }
        int w = way(c, c.x, c.y, prey.x, prey.y);
        int v = way(c, x, y, prey.x, prey.y);
        if (w < 0 || v < 0) {
            return 0;
        }
        return 10 + 4 * (c.afraid() ? v - w : w - v);
    }

    int worth(int being, int action) {
        Creature c = need(being);
        need(action, 0, 7);
        return worth(c, action);
    }

    private int plan(Creature c) {
        if (c.dead()) {
            return -1;
        }
        int best = 0;
        for (int action = 1; action < 8; action++) {
            if (worth(c, action) > worth(c, best)) {
                best = action;
            }
        }
        return best;
    }

    int plan(int being) {
        return plan(need(being));
    }

    int save() {
        needState(saved.size() < 5);
        saved.add(game.copy());
        return saved.size() - 1;
    }

    int load(int number) {
        if (number < 0 || number >= saved.size()) {
            throw new IndexOutOfBoundsException();
        }
        game = saved.get(number).copy();
        return alive(0) + alive(1);
    }

    int hit(int being, int other) {
        Creature c = need(being);
        Creature o = need(other);
        return c.dead() || o.dead() ? 0 : hits(c, o);
    }

    int ahead(int turns) {
        need(turns, 1, 40);
        Game kept = game;
        game = kept.copy();
        follow(turns);
        int lead = 0;
        for (Creature c : game.creatures) {
            lead += c.side == 0 ? c.life : -c.life;
        }
        game = kept;
        return lead;
    }

    int danger(int side, int cell) {
        need(side, 0, 1);
        needCell(cell);
        int n = 0;
        for (Creature c : game.creatures) {
            if (c.side != side && !c.dead() && sees(c.x, c.y, cell % 16, cell / 16)) {
                n++;
            }
        }
        return n;
    }

    double meanLife() {
        return game.creatures.stream().filter(c -> !c.dead()).mapToInt(c -> c.life).average().orElse(0);
    }

    long digest() {
        List<Integer> all = new ArrayList<>();
        for (int what = 0; what <= 8; what++) {
            all.add(many(what));
        }
        for (int cell = 0; cell < 160; cell++) {
            all.add(cell(cell));
        }
        for (int being = 0; being < game.creatures.size(); being++) {
            for (int what = 0; what <= 9; what++) {
                all.add(of(being, what));
            }
            for (int e = 0; e < 5; e++) {
                all.add(effect(being, e, false));
                all.add(effect(being, e, true));
            }
            all.add(target(being));
            all.add(plan(being));
            for (int action = 0; action <= 7; action++) {
                all.add(worth(being, action));
            }
        }
        Creature turn = turn();
        if (turn != null) {
            all.add(danger(0, turn.y * 16 + turn.x));
        }
        long d = 58090;
        for (int v : all) {
            d = d * 31 + v;
        }
        return d;
    }
}
