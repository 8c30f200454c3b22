import java.util.ArrayList;
import java.util.Arrays;
import java.util.List;

/** A dungeon, turn by turn: the face of it, which tests what it is given and asks the classes inside. */
public final class Warren {
    private static final int COLUMNS = 16;
    private static final int ROWS = 10;
    private static final int CELLS = COLUMNS * ROWS;
    private static final int SIGHT = 7;

    private static final int FLOOR = 0;
    private static final int WALL = 1;
    private static final int DOOR = 2;
    private static final int WATER = 3;

    /** What is to be added to a CELL to come to that in a DIRECTION. */
    private static final int[] STEPS = {-16, 1, 16, -1};

    private static final int MOST_BEINGS = 10;
    private static final int MOST_GAMES = 5;
    private static final int MOST_TURNS = 40;

    // The numbers of of(); the last one is not kept, but follows from LIFE.
    private static final int SIDE = 0;
    private static final int CELL = 1;
    private static final int LIFE = 2;
    private static final int MOST_LIFE = 3;
    private static final int FORCE = 4;
    private static final int GUARD = 5;
    private static final int SPEED = 6;
    private static final int MANA = 7;
    private static final int TIME = 8;
    private static final int TRAITS = 9;
    private static final int AFRAID = 9;

    private static final int POISON = 0;
    private static final int REST = 1;
    private static final int STRONG = 2;
    private static final int SHIELD = 3;
    private static final int SLOW = 4;
    private static final int EFFECTS = 5;
    private static final int MOST_STACK = 9;

    private static final int WAIT = 0;
    private static final int FIRST_GO = 1;
    private static final int LAST_GO = 4;
    private static final int CURSE = 5;
    private static final int GUARD_ITSELF = 6;
    private static final int HEAL_ITSELF = 7;
    private static final int ACTIONS = 8;

    private static final int MOST_MANA = 9;
    private static final int MAGIC_MANA = 3;
    private static final int NOT_POSSIBLE = -1000;
    private static final int NONE = -1;

    /** The game that is played: the one on the table, but within ahead() the trial. */
    private State state;
    private final State trial;
    private final List<State> saved;
    private final Mind mind;

    public Warren() {
        state = new State();
        trial = new State();
        saved = new ArrayList<>();
        mind = new Mind();
    }

    // ---- the map

    public int dig(int x, int y, int width, int height) throws IllegalArgumentException {
        if (!isWithin(x, 0, COLUMNS - 1) || !isWithin(y, 0, ROWS - 1)
                || !isWithin(width, 1, COLUMNS - x) || !isWithin(height, 1, ROWS - y)) {
            throw new IllegalArgumentException("the room is not on the map");
        }
        return state.digRoom(x, y, width, height);
    }

    public int set(int cell, int kind)
            throws IndexOutOfBoundsException, IllegalArgumentException, IllegalStateException {
        if (!isCell(cell)) {
            throw new IndexOutOfBoundsException("no such cell");
        }
        if (!isWithin(kind, FLOOR, WATER) || (isEdge(cell) && kind != WALL)) {
            throw new IllegalArgumentException("no such kind there");
        }
        if (stopsSight(kind) && state.whoIsOn(cell) != NONE) {
            throw new IllegalStateException("a being is on it");
        }
        int before = state.kindAt(cell);
        state.putKind(cell, kind);
        return before;
    }

    public int cell(int cell) throws IndexOutOfBoundsException {
        if (!isCell(cell)) {
            throw new IndexOutOfBoundsException("no such cell");
        }
        return state.kindAt(cell);
    }

    public int on(int cell) throws IndexOutOfBoundsException {
        if (!isCell(cell)) {
            throw new IndexOutOfBoundsException("no such cell");
        }
        return state.whoIsOn(cell);
    }

    public boolean sees(int one, int other) throws IndexOutOfBoundsException {
        if (!isCell(one) || !isCell(other)) {
            throw new IndexOutOfBoundsException("no such cell");
        }
        return state.isSeenFrom(one, other);
    }

    public boolean knows(int side, int cell) throws IllegalArgumentException, IndexOutOfBoundsException {
        if (!isSide(side)) {
            throw new IllegalArgumentException("no such side");
        }
        if (!isCell(cell)) {
            throw new IndexOutOfBoundsException("no such cell");
        }
        return state.isKnown(side, cell);
    }

    // ---- beings

    public int come(int side, int cell, int life)
            throws IndexOutOfBoundsException, IllegalArgumentException, IllegalStateException {
        if (!isCell(cell)) {
            throw new IndexOutOfBoundsException("no such cell");
        }
        if (!isSide(side) || !isWithin(life, 1, 60)) {
            throw new IllegalArgumentException("no such side or life");
        }
        if (stopsSight(state.kindAt(cell)) || state.whoIsOn(cell) != NONE || !state.hasRoom()) {
            throw new IllegalStateException("it cannot be there, or there were 10");
        }
        return state.addBeing(side, cell, life);
    }

    public int become(int being, int force, int guard, int speed)
            throws IndexOutOfBoundsException, IllegalArgumentException {
        if (!state.isBeing(being)) {
            throw new IndexOutOfBoundsException("no such being");
        }
        if (!isWithin(force, 0, 20) || !isWithin(guard, 0, 20) || !isWithin(speed, 1, 4)) {
            throw new IllegalArgumentException("no such force, guard or speed");
        }
        int before = state.trait(being, FORCE);
        state.putTrait(being, FORCE, force);
        state.putTrait(being, GUARD, guard);
        state.putTrait(being, SPEED, speed);
        return before;
    }

    public int lay(int being, int effect, int stack, int turns)
            throws IndexOutOfBoundsException, IllegalArgumentException, IllegalStateException {
        if (!state.isBeing(being)) {
            throw new IndexOutOfBoundsException("no such being");
        }
        if (!isWithin(effect, 0, EFFECTS - 1) || !isWithin(stack, 1, MOST_STACK) || !isWithin(turns, 1, 20)) {
            throw new IllegalArgumentException("no such effect, stack or turns");
        }
        if (!state.isAlive(being)) {
            throw new IllegalStateException("it is dead");
        }
        state.addEffect(being, effect, stack, turns);
        return state.stackOf(being, effect);
    }

    public int of(int being, int what) throws IndexOutOfBoundsException, IllegalArgumentException {
        if (!state.isBeing(being)) {
            throw new IndexOutOfBoundsException("no such being");
        }
        if (!isWithin(what, 0, AFRAID)) {
            throw new IllegalArgumentException("no such thing to ask");
        }
        return answerOf(being, what);
    }

    public int effect(int being, int effect, boolean isTurns)
            throws IndexOutOfBoundsException, IllegalArgumentException {
        if (!state.isBeing(being)) {
            throw new IndexOutOfBoundsException("no such being");
        }
        if (!isWithin(effect, 0, EFFECTS - 1)) {
            throw new IllegalArgumentException("no such effect");
        }
        return isTurns ? state.turnsOf(being, effect) : state.stackOf(being, effect);
    }

    public int many(int what) throws IllegalArgumentException {
        if (!isWithin(what, 0, 8)) {
            throw new IllegalArgumentException("no such thing to count");
        }
        return countOf(what);
    }

    // ---- turns

    public int act(int action) throws IllegalArgumentException, IllegalStateException {
        if (!isWithin(action, 0, ACTIONS - 1)) {
            throw new IllegalArgumentException("no such action");
        }
        int being = state.whoseTurn();
        if (!Rules.isPossible(state, being, action)) {
            throw new IllegalStateException("there is no turn, or it is not possible");
        }
        return Rules.perform(state, being, action);
    }

    public int follow(int turns) throws IllegalArgumentException {
        if (!isWithin(turns, 1, MOST_TURNS)) {
            throw new IllegalArgumentException("turns is not 1 to 40");
        }
        return play(turns);
    }

    // ---- plans

    public int target(int being) throws IndexOutOfBoundsException {
        if (!state.isBeing(being)) {
            throw new IndexOutOfBoundsException("no such being");
        }
        return state.targetOf(being);
    }

    public int way(int being, int cell) throws IndexOutOfBoundsException {
        if (!state.isBeing(being) || !isCell(cell)) {
            throw new IndexOutOfBoundsException("no such being or cell");
        }
        return mind.wayOf(state, being, cell);
    }

    public int worth(int being, int action) throws IndexOutOfBoundsException, IllegalArgumentException {
        if (!state.isBeing(being)) {
            throw new IndexOutOfBoundsException("no such being");
        }
        if (!isWithin(action, 0, ACTIONS - 1)) {
            throw new IllegalArgumentException("no such action");
        }
        mind.weigh(state, being);
        return mind.worthOf(action);
    }

    public int plan(int being) throws IndexOutOfBoundsException {
        if (!state.isBeing(being)) {
            throw new IndexOutOfBoundsException("no such being");
        }
        mind.weigh(state, being);
        return mind.best();
    }

    // ---- saved games

    public int save() throws IllegalStateException {
        if (saved.size() >= MOST_GAMES) {
            throw new IllegalStateException("there are 5");
        }
        State game = new State();
        game.copyFrom(state);
        saved.add(game);
        return saved.size() - 1;
    }

    public int load(int game) throws IndexOutOfBoundsException {
        if (game < 0 || game >= saved.size()) {
            throw new IndexOutOfBoundsException("no such game");
        }
        state.copyFrom(saved.get(game));
        return state.living(0) + state.living(1);
    }

    // ---- what would be (nothing is changed)

    public int hit(int being, int other) throws IndexOutOfBoundsException {
        if (!state.isBeing(being) || !state.isBeing(other)) {
            throw new IndexOutOfBoundsException("no such being");
        }
        return state.hitOf(being, other);
    }

    public int ahead(int turns) throws IllegalArgumentException {
        if (!isWithin(turns, 1, MOST_TURNS)) {
            throw new IllegalArgumentException("turns is not 1 to 40");
        }
        State kept = state;
        trial.copyFrom(kept);
        state = trial;
        play(turns);
        state = kept;
        return trial.lifeOf(0) - trial.lifeOf(1);
    }

    public int danger(int side, int cell) throws IllegalArgumentException, IndexOutOfBoundsException {
        if (!isSide(side)) {
            throw new IllegalArgumentException("no such side");
        }
        if (!isCell(cell)) {
            throw new IndexOutOfBoundsException("no such cell");
        }
        return state.watchersOf(side, cell);
    }

    public double meanLife() {
        int living = state.living(0) + state.living(1);
        if (living == 0) {
            return 0.0;
        }
        return (double) (state.lifeOf(0) + state.lifeOf(1)) / living;
    }

    public long digest() {
        long d = 58090;
        for (int what = 0; what <= 8; what++) {
            d = d * 31 + countOf(what);
        }
        for (int cell = 0; cell < CELLS; cell++) {
            d = d * 31 + state.kindAt(cell);
        }
        for (int being = 0; being < MOST_BEINGS && state.isBeing(being); being++) {
            d = digestOf(d, being);
        }
        int turn = state.whoseTurn();
        return turn == NONE ? d : d * 31 + state.watchersOf(0, state.trait(turn, CELL));
    }

    // ---- within

    private static boolean isWithin(int value, int least, int most) {
        return value >= least && value <= most;
    }

    private static boolean isCell(int cell) {
        return cell >= 0 && cell < CELLS;
    }

    private static boolean isSide(int side) {
        return side == 0 || side == 1;
    }

    private static boolean isEdge(int cell) {
        int column = cell % COLUMNS;
        int row = cell / COLUMNS;
        return column == 0 || column == COLUMNS - 1 || row == 0 || row == ROWS - 1;
    }

    /** What one cannot look through, nobody can stand on, either. */
    private static boolean stopsSight(int kind) {
        return kind == WALL || kind == DOOR;
    }

    private int answerOf(int being, int what) {
        if (what == AFRAID) {
            return state.isAfraid(being) ? 1 : 0;
        }
        return state.trait(being, what);
    }

    private int countOf(int what) {
        switch (what) {
            case 0:
                return state.beings;
            case 1:
                return state.living(0);
            case 2:
                return state.living(1);
            case 3:
                return state.whoseTurn();
            case 4:
                return state.actions;
            case 5:
                return state.hits;
            case 6:
                return state.knownCells(0);
            case 7:
                return state.knownCells(1);
            default:
                return saved.size();
        }
    }

    private int play(int turns) {
        int done = 0;
        while (done < turns && state.living(0) > 0 && state.living(1) > 0) {
            int being = state.whoseTurn();
            mind.weigh(state, being);
            Rules.perform(state, being, mind.best());
            done++;
        }
        return done;
    }

    private long digestOf(long start, int being) {
        long d = start;
        for (int what = 0; what <= AFRAID; what++) {
            d = d * 31 + answerOf(being, what);
        }
        for (int effect = 0; effect < EFFECTS; effect++) {
            d = d * 31 + state.stackOf(being, effect);
            d = d * 31 + state.turnsOf(being, effect);
        }
        mind.weigh(state, being);
        d = d * 31 + state.targetOf(being);
        d = d * 31 + mind.best();
        for (int action = 0; action < ACTIONS; action++) {
            d = d * 31 + mind.worthOf(action);
        }
        return d;
    }

    /** All that a saved game holds, and what follows from it alone. */
    private static final class State {
        private final int[] kinds = new int[CELLS];
        /** For each CELL a bit for each SIDE that KNOWS it. */
        private final int[] known = new int[CELLS];
        private final int[] traits = new int[MOST_BEINGS * TRAITS];
        private final int[] stacks = new int[MOST_BEINGS * EFFECTS];
        private final int[] turns = new int[MOST_BEINGS * EFFECTS];
        private int beings;
        private int actions;
        private int hits;

        State() {
            Arrays.fill(kinds, WALL);
        }

        void copyFrom(State other) {
            System.arraycopy(other.kinds, 0, kinds, 0, kinds.length);
            System.arraycopy(other.known, 0, known, 0, known.length);
            System.arraycopy(other.traits, 0, traits, 0, traits.length);
            System.arraycopy(other.stacks, 0, stacks, 0, stacks.length);
            System.arraycopy(other.turns, 0, turns, 0, turns.length);
            beings = other.beings;
            actions = other.actions;
            hits = other.hits;
        }

        // ---- CELLS

        /** Off the MAP all is WALL, as its rim is. */
        int kindAt(int cell) {
            return cell >= 0 && cell < kinds.length ? kinds[cell] : WALL;
        }

        void putKind(int cell, int kind) {
            if (cell >= 0 && cell < kinds.length) {
                kinds[cell] = kind;
            }
        }

        int digRoom(int x, int y, int width, int height) {
            int changed = 0;
            for (int row = y; row < y + height; row++) {
                for (int column = x; column < x + width; column++) {
                    int cell = row * COLUMNS + column;
                    if (!isEdge(cell) && kindAt(cell) != FLOOR) {
                        putKind(cell, FLOOR);
                        changed++;
                    }
                }
            }
            return changed;
        }

        static int apart(int one, int other) {
            int columns = Math.abs(other % COLUMNS - one % COLUMNS);
            int rows = Math.abs(other / COLUMNS - one / COLUMNS);
            return Math.max(columns, rows);
        }

        /** The nearest whole number to part / whole, of two the greater one. */
        private static int nearest(int part, int whole) {
            return whole > 0 ? Math.floorDiv(2 * part + whole, 2 * whole) : 0;
        }

        boolean isSeenFrom(int one, int other) {
            int n = apart(one, other);
            if (n > SIGHT) {
                return false;
            }
            int dx = other % COLUMNS - one % COLUMNS;
            int dy = other / COLUMNS - one / COLUMNS;
            for (int k = 1; k < n; k++) {
                int cell = one + nearest(k * dx, n) + COLUMNS * nearest(k * dy, n);
                if (stopsSight(kindAt(cell))) {
                    return false;
                }
            }
            return true;
        }

        boolean isKnown(int side, int cell) {
            return cell >= 0 && cell < known.length && (known[cell] & (1 << side)) != 0;
        }

        int knownCells(int side) {
            int count = 0;
            for (int cell = 0; cell < known.length; cell++) {
                if (isKnown(side, cell)) {
                    count++;
                }
            }
            return count;
        }

        /** Its SIDE KNOWS from now on what it SEES. */
        void look(int being) {
            int from = trait(being, CELL);
            int side = trait(being, SIDE);
            for (int cell = 0; cell < known.length; cell++) {
                if (!isKnown(side, cell) && isSeenFrom(from, cell)) {
                    known[cell] |= 1 << side;
                }
            }
        }

        // ---- BEINGS

        boolean isBeing(int being) {
            return being >= 0 && being < beings;
        }

        boolean hasRoom() {
            return beings < MOST_BEINGS;
        }

        int trait(int being, int what) {
            int at = being * TRAITS + what;
            return at >= 0 && at < traits.length ? traits[at] : 0;
        }

        void putTrait(int being, int what, int value) {
            int at = being * TRAITS + what;
            if (at >= 0 && at < traits.length) {
                traits[at] = value;
            }
        }

        int stackOf(int being, int effect) {
            int at = being * EFFECTS + effect;
            return at >= 0 && at < stacks.length ? stacks[at] : 0;
        }

        int turnsOf(int being, int effect) {
            int at = being * EFFECTS + effect;
            return at >= 0 && at < turns.length ? turns[at] : 0;
        }

        void putEffect(int being, int effect, int stack, int left) {
            int at = being * EFFECTS + effect;
            if (at >= 0 && at < stacks.length && at < turns.length) {
                stacks[at] = stack;
                turns[at] = left;
            }
        }

        void addEffect(int being, int effect, int stack, int left) {
            putEffect(being, effect, Math.min(stackOf(being, effect) + stack, MOST_STACK),
                    Math.max(turnsOf(being, effect), left));
        }

        int addBeing(int side, int cell, int life) {
            int turn = whoseTurn();
            int being = beings;
            beings++;
            putTrait(being, SIDE, side);
            putTrait(being, CELL, cell);
            putTrait(being, LIFE, life);
            putTrait(being, MOST_LIFE, life);
            putTrait(being, FORCE, 5);
            putTrait(being, GUARD, 2);
            putTrait(being, SPEED, 2);
            putTrait(being, MANA, 3);
            putTrait(being, TIME, turn == NONE ? 0 : trait(turn, TIME));
            for (int effect = 0; effect < EFFECTS; effect++) {
                putEffect(being, effect, 0, 0);
            }
            look(being);
            return being;
        }

        /** No number below 0 is alive, so that NONE may be asked about, too. */
        boolean isAlive(int being) {
            return trait(being, LIFE) > 0;
        }

        boolean isAfraid(int being) {
            return 3 * trait(being, LIFE) < trait(being, MOST_LIFE);
        }

        /** The DEAD are on no CELL, so that nothing else has to ask whether they live. */
        int whoIsOn(int cell) {
            for (int being = 0; being < beings; being++) {
                if (trait(being, CELL) == cell) {
                    return being;
                }
            }
            return NONE;
        }

        int living(int side) {
            int count = 0;
            for (int being = 0; being < beings; being++) {
                if (trait(being, SIDE) == side && isAlive(being)) {
                    count++;
                }
            }
            return count;
        }

        int lifeOf(int side) {
            int life = 0;
            for (int being = 0; being < beings; being++) {
                if (trait(being, SIDE) == side) {
                    life += trait(being, LIFE);
                }
            }
            return life;
        }

        int whoseTurn() {
            int turn = NONE;
            for (int being = 0; being < beings; being++) {
                if (isAlive(being) && (turn == NONE || trait(being, TIME) < trait(turn, TIME))) {
                    turn = being;
                }
            }
            return turn;
        }

        boolean isFoe(int being, int other) {
            return trait(other, LIFE) > 0 && trait(other, SIDE) != trait(being, SIDE);
        }

        int targetOf(int being) {
            if (!isAlive(being)) {
                return NONE;
            }
            int from = trait(being, CELL);
            int target = NONE;
            int least = SIGHT + 1;
            for (int other = 0; other < beings; other++) {
                int there = trait(other, CELL);
                if (isFoe(being, other) && apart(from, there) < least && isSeenFrom(from, there)) {
                    target = other;
                    least = apart(from, there);
                }
            }
            return target;
        }

        int firstFoe(int being) {
            for (int other = 0; other < beings; other++) {
                if (isFoe(being, other)) {
                    return other;
                }
            }
            return NONE;
        }

        boolean hasFoeBeside(int being) {
            for (int direction = 0; direction < STEPS.length; direction++) {
                if (isFoe(being, whoIsOn(trait(being, CELL) + STEPS[direction]))) {
                    return true;
                }
            }
            return false;
        }

        int watchersOf(int side, int cell) {
            int count = 0;
            for (int being = 0; being < beings; being++) {
                if (isAlive(being) && trait(being, SIDE) != side && isSeenFrom(trait(being, CELL), cell)) {
                    count++;
                }
            }
            return count;
        }

        int hitOf(int being, int other) {
            if (!isAlive(being) || !isAlive(other)) {
                return 0;
            }
            int force = trait(being, FORCE) + stackOf(being, STRONG);
            int guard = trait(other, GUARD) + stackOf(other, SHIELD);
            return Math.max(force - guard, 1);
        }

        /** Answers how much it had of that; one that has no LIFE left leaves its CELL. */
        int takeLife(int being, int much) {
            int life = trait(being, LIFE);
            int taken = Math.min(much, life);
            putTrait(being, LIFE, life - taken);
            if (life - taken == 0) {
                putTrait(being, CELL, NONE);
            }
            return taken;
        }
    }

    /** What ACTIONS are POSSIBLE, and what they bring about. */
    private static final class Rules {
        static boolean isPossible(State state, int being, int action) {
            if (!state.isAlive(being)) {
                return false;
            }
            if (action == WAIT) {
                return true;
            }
            if (action >= FIRST_GO && action <= LAST_GO) {
                return canGo(state, being, cellTowards(state, being, action));
            }
            return state.trait(being, MANA) >= MAGIC_MANA
                    && (action != CURSE || state.targetOf(being) != NONE);
        }

        private static boolean canGo(State state, int being, int there) {
            if (state.kindAt(there) == WALL) {
                return false;
            }
            int other = state.whoIsOn(there);
            return other == NONE || state.isFoe(being, other);
        }

        static int cellTowards(State state, int being, int action) {
            int direction = action - FIRST_GO;
            int step = direction >= 0 && direction < STEPS.length ? STEPS[direction] : 0;
            return state.trait(being, CELL) + step;
        }

        /** For an ACTION that is POSSIBLE; answers how much LIFE the other SIDE lost. */
        static int perform(State state, int being, int action) {
            boolean wasSlow = state.stackOf(being, SLOW) > 0;
            int lost = 0;
            if (action == WAIT) {
                state.putTrait(being, MANA, Math.min(state.trait(being, MANA) + 1, MOST_MANA));
            } else if (action <= LAST_GO) {
                lost = go(state, being, cellTowards(state, being, action));
            } else {
                conjure(state, being, action);
            }
            state.actions++;
            wearOff(state, being);
            passTime(state, being, wasSlow);
            if (state.isAlive(being)) {
                state.look(being);
            }
            return lost;
        }

        private static int go(State state, int being, int there) {
            int other = state.whoIsOn(there);
            if (other != NONE) {
                state.hits++;
                return state.takeLife(other, state.hitOf(being, other));
            }
            if (state.kindAt(there) == DOOR) {
                state.putKind(there, FLOOR);
            } else {
                state.putTrait(being, CELL, there);
            }
            return 0;
        }

        private static void conjure(State state, int being, int action) {
            state.putTrait(being, MANA, state.trait(being, MANA) - MAGIC_MANA);
            if (action == CURSE) {
                state.addEffect(state.targetOf(being), POISON, 2, 3);
            } else if (action == GUARD_ITSELF) {
                state.addEffect(being, SHIELD, 3, 4);
            } else {
                state.addEffect(being, REST, 2, 4);
            }
        }

        private static void wearOff(State state, int being) {
            state.takeLife(being, state.stackOf(being, POISON));
            if (state.isAlive(being)) {
                int life = state.trait(being, LIFE) + state.stackOf(being, REST);
                state.putTrait(being, LIFE, Math.min(life, state.trait(being, MOST_LIFE)));
            }
            for (int effect = 0; effect < EFFECTS; effect++) {
                int left = state.turnsOf(being, effect) - 1;
                state.putEffect(being, effect, left > 0 ? state.stackOf(being, effect) : 0, Math.max(left, 0));
            }
        }

        private static void passTime(State state, int being, boolean wasSlow) {
            int speed = state.trait(being, SPEED);
            int time = speed > 0 ? 12 / speed : 0;
            state.putTrait(being, TIME, state.trait(being, TIME) + (wasSlow ? 2 * time : time));
        }
    }

    /** What each ACTION of a BEING is worth to it; it holds the answers for the one weighed last. */
    private static final class Mind {
        private final Ways ways = new Ways();
        private final int[] worths = new int[ACTIONS];

        int wayOf(State state, int being, int cell) {
            if (!state.isAlive(being)) {
                return NONE;
            }
            ways.measure(state, being, cell);
            return ways.from(state.trait(being, CELL));
        }

        void weigh(State state, int being) {
            int target = state.targetOf(being);
            int prey = target != NONE ? target : state.firstFoe(being);
            ways.measure(state, being, prey != NONE ? state.trait(prey, CELL) : NONE);
            for (int action = 0; action < worths.length; action++) {
                boolean isPossible = Rules.isPossible(state, being, action);
                worths[action] = isPossible ? worthIfPossible(state, being, action, target) : NOT_POSSIBLE;
            }
        }

        int worthOf(int action) {
            return action >= 0 && action < worths.length ? worths[action] : NOT_POSSIBLE;
        }

        /** NONE for one that is DEAD, as nothing is POSSIBLE for it. */
        int best() {
            int best = NONE;
            int most = NOT_POSSIBLE;
            for (int action = 0; action < worths.length; action++) {
                if (worths[action] > most) {
                    best = action;
                    most = worths[action];
                }
            }
            return best;
        }

        private int worthIfPossible(State state, int being, int action, int target) {
            switch (action) {
                case WAIT:
                    return 1;
                case CURSE:
                    return 14 - state.stackOf(target, POISON);
                case GUARD_ITSELF:
                    return worthOfGuard(state, being);
                case HEAL_ITSELF:
                    return state.trait(being, MOST_LIFE) - state.trait(being, LIFE)
                            - 2 * state.stackOf(being, REST);
                default:
                    return worthOfGo(state, being, Rules.cellTowards(state, being, action));
            }
        }

        private int worthOfGuard(State state, int being) {
            boolean hasCause = state.isAfraid(being) || state.hasFoeBeside(being);
            return hasCause ? 24 - 3 * state.stackOf(being, SHIELD) : 0;
        }

        private int worthOfGo(State state, int being, int there) {
            int other = state.whoIsOn(there);
            if (other != NONE) {
                int hit = state.hitOf(being, other);
                return 20 + 3 * hit + (hit >= state.trait(other, LIFE) ? 30 : 0);
            }
            if (state.kindAt(there) == DOOR) {
                return 6;
            }
            int here = ways.from(state.trait(being, CELL));
            int then = ways.from(there);
            if (here == NONE || then == NONE) {
                return 0;
            }
            return 10 + 4 * (state.isAfraid(being) ? then - here : here - then);
        }
    }

    /**
     * How long the WAYS of a BEING to one CELL are, from every CELL: measured backwards from the goal, so that one
     * measuring serves for where it is and for all where it might go.
     */
    private static final class Ways {
        private static final int BLOCKED = -2;
        private final int[] lengths = new int[CELLS];
        /** CELLS to go on from, each as twice its number, and 1 more if it has waited. */
        private final int[] queue = new int[2 * CELLS];
        private int queued;

        void measure(State state, int walker, int goal) {
            Arrays.fill(lengths, NONE);
            queued = 0;
            if (state.kindAt(goal) == WALL) {
                return;
            }
            for (int being = 0; being < state.beings; being++) {
                if (being != walker) {
                    putLength(state.trait(being, CELL), BLOCKED);
                }
            }
            putLength(goal, 0);
            enqueue(2 * goal);
            spread(state);
        }

        int from(int cell) {
            return Math.max(lengthAt(cell), NONE);
        }

        /**
         * A CELL that takes 2 waits for one round more before its neighbours are reached, so that those in the queue
         * always stand in the order of their lengths.
         */
        private void spread(State state) {
            for (int head = 0; head < queued && head < queue.length; head++) {
                int cell = queue[head] / 2;
                boolean hasWaited = queue[head] % 2 == 1;
                boolean isLong = state.kindAt(cell) != FLOOR;
                if (isLong && !hasWaited) {
                    enqueue(2 * cell + 1);
                } else {
                    reachAround(state, cell, lengthAt(cell) + (isLong ? 2 : 1));
                }
            }
        }

        private void reachAround(State state, int cell, int length) {
            for (int direction = 0; direction < STEPS.length; direction++) {
                int next = cell + STEPS[direction];
                if (lengthAt(next) == NONE && state.kindAt(next) != WALL) {
                    putLength(next, length);
                    enqueue(2 * next);
                }
            }
        }

        private void enqueue(int entry) {
            if (queued >= 0 && queued < queue.length) {
                queue[queued] = entry;
                queued++;
            }
        }

        private int lengthAt(int cell) {
            return cell >= 0 && cell < lengths.length ? lengths[cell] : BLOCKED;
        }

        private void putLength(int cell, int length) {
            if (cell >= 0 && cell < lengths.length) {
                lengths[cell] = length;
            }
        }
    }
}
