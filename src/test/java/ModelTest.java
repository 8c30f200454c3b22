import java.util.function.LongSupplier;

/**
 * Long runs of calls, whose arguments come from a fixed row of numbers, on the class and on the Model: every answer
 * and every exception has to be the same (promises 1 to 26), in whatever state the object is.
 */
public final class ModelTest {
    private static final int RUNS = 500;
    private static final int CALLS = 512;
    private static final int[] WILD = {Integer.MIN_VALUE, -1000, -17, -1, 0, 1, 2, 7, 8, 9, 10, 11, 16, 21, 41, 61,
        159, 160, 161, 1000, Integer.MAX_VALUE};

    private long seed;
    private int beings;
    private int calls;

    public static void main(String[] args) {
        int wrong = 0;
        for (int run = 0; run < RUNS && wrong == 0; run++) {
            wrong += new ModelTest(run).run(run);
        }
        System.out.println("ModelTest: " + RUNS + " runs of " + CALLS + " calls, " + wrong + " wrong");
        if (wrong != 0) {
            System.exit(1);
        }
    }

    private ModelTest(int run) {
        seed = 7919L * run + 12345;
    }

    private int under(int bound) {
        seed = seed * 6364136223846793005L + 1442695040888963407L;
        return (int) ((seed >>> 33) % bound);
    }

    /** Mostly from least to most, now and then anything. */
    private int from(int least, int most) {
        if (under(60) == 0) {
            return under(2) == 0 ? WILD[under(WILD.length)] : (under(2) == 0 ? least - 1 : most + 1);
        }
        return least + under(most - least + 1);
    }

    private static String answer(LongSupplier call) {
        try {
            return Long.toString(call.getAsLong());
        } catch (RuntimeException e) {
            return e.getClass().getSimpleName();
        }
    }

    private int run(int run) {
        Warren warren = new Warren();
        Model model = new Model();
        StringBuilder told = new StringBuilder();
        int wrong = 0;
        // Every other run ends with what one side knows of all of the map; with that, too, it has no more calls.
        int left = CALLS - 4 - (run % 2 == 0 ? 160 : 0);
        for (int i = 0; calls < left && wrong == 0; i++) {
            beings = model.many(0);
            wrong += one(warren, model, told, i < 40);
            if (i % 8 == 7) {
                wrong += same(told, "digest()", warren::digest, model::digest);
            }
        }
        wrong += same(told, "digest()", warren::digest, model::digest);
        int side = run / 2 % 2;
        for (int cell = 0; cell < 160 && run % 2 == 0; cell++) {
            int where = cell;
            wrong += same(told, "knows(" + side + ", " + cell + ")", () -> warren.knows(side, where) ? 1 : 0,
                    () -> model.knows(side, where) ? 1 : 0);
        }
        if (wrong != 0) {
            System.out.println("run " + run + ":" + System.lineSeparator() + told);
        }
        return wrong;
    }

    private int same(StringBuilder told, String call, LongSupplier mine, LongSupplier due) {
        calls++;
        String got = answer(mine);
        String want = answer(due);
        told.append(call).append(" = ").append(got).append(System.lineSeparator());
        if (got.equals(want)) {
            return 0;
        }
        told.append("    due is ").append(want).append(System.lineSeparator());
        return 1;
    }

    private int being() {
        return beings == 0 ? from(0, 1) : from(0, beings - 1);
    }

    private int one(Warren w, Model m, StringBuilder t, boolean isEarly) {
        int kind = isEarly ? under(9) : under(38);
        int cell = from(0, 159);
        int inner = from(1, 8) * 16 + from(1, 14);
        int b = being();
        int side = from(0, 1);
        switch (kind) {
            case 0, 1: {
                int x = from(0, 13);
                int y = from(0, 7);
                int wide = from(1, Math.max(1, Math.min(8, 16 - x)));
                int high = from(1, Math.max(1, Math.min(5, 10 - y)));
                return same(t, "dig(" + x + ", " + y + ", " + wide + ", " + high + ")",
                        () -> w.dig(x, y, wide, high), () -> m.dig(x, y, wide, high));
            }
            case 2, 3: {
                int what = from(0, 3);
                int where = under(8) == 0 ? cell : inner;
                return same(t, "set(" + where + ", " + what + ")", () -> w.set(where, what), () -> m.set(where, what));
            }
            case 4, 5, 6: {
                int life = from(1, 60);
                int where = under(8) == 0 ? cell : inner;
                return same(t, "come(" + side + ", " + where + ", " + life + ")", () -> w.come(side, where, life),
                        () -> m.come(side, where, life));
            }
            case 7: {
                int force = from(0, 20);
                int guard = from(0, 20);
                int speed = from(1, 4);
                return same(t, "become(" + b + ", " + force + ", " + guard + ", " + speed + ")",
                        () -> w.become(b, force, guard, speed), () -> m.become(b, force, guard, speed));
            }
            case 8: {
                int effect = from(0, 4);
                int stack = from(1, 9);
                int turns = from(1, 20);
                return same(t, "lay(" + b + ", " + effect + ", " + stack + ", " + turns + ")",
                        () -> w.lay(b, effect, stack, turns), () -> m.lay(b, effect, stack, turns));
            }
            default:
                return kind < 24 ? turnOrGame(w, m, t, kind) : asked(w, m, t, kind, cell);
        }
    }

    private int turnOrGame(Warren w, Model m, StringBuilder t, int kind) {
        int turns = from(1, 40);
        int few = from(1, 3);
        int game = from(0, 4);
        int action = from(0, 7);
        if (kind < 18) {
            return same(t, "act(" + action + ")", () -> w.act(action), () -> m.act(action));
        }
        if (kind < 21) {
            return same(t, "follow(" + few + ")", () -> w.follow(few), () -> m.follow(few));
        }
        if (kind == 21) {
            return same(t, "follow(" + turns + ")", () -> w.follow(turns), () -> m.follow(turns));
        }
        if (kind == 22) {
            return under(6) == 0 ? same(t, "save()", w::save, m::save)
                    : same(t, "ahead(" + few + ")", () -> w.ahead(few), () -> m.ahead(few));
        }
        return under(3) == 0 ? same(t, "load(" + game + ")", () -> w.load(game), () -> m.load(game))
                : same(t, "ahead(" + turns + ")", () -> w.ahead(turns), () -> m.ahead(turns));
    }

    private int asked(Warren w, Model m, StringBuilder t, int kind, int cell) {
        int b = being();
        int c = being();
        int side = from(0, 1);
        int other = from(0, 159);
        int near = cell + under(7) * 16 - 48 + under(9) - 4;
        int what = from(0, 9);
        int effect = from(0, 4);
        boolean isTurns = under(2) == 0;
        switch (kind) {
            case 24:
                return same(t, "cell(" + cell + ")", () -> w.cell(cell), () -> m.cell(cell));
            case 25:
                return same(t, "on(" + cell + ")", () -> w.on(cell), () -> m.on(cell));
            case 26:
                return same(t, "sees(" + cell + ", " + other + ")", () -> w.sees(cell, other) ? 1 : 0,
                        () -> m.sees(cell, other) ? 1 : 0);
            case 27:
                return same(t, "sees(" + cell + ", " + near + ")", () -> w.sees(cell, near) ? 1 : 0,
                        () -> m.sees(cell, near) ? 1 : 0);
            case 28:
                return same(t, "knows(" + side + ", " + cell + ")", () -> w.knows(side, cell) ? 1 : 0,
                        () -> m.knows(side, cell) ? 1 : 0);
            case 29:
                return same(t, "of(" + b + ", " + what + ")", () -> w.of(b, what), () -> m.of(b, what));
            case 30:
                return same(t, "effect(" + b + ", " + effect + ", " + isTurns + ")",
                        () -> w.effect(b, effect, isTurns), () -> m.effect(b, effect, isTurns));
            case 31:
                return same(t, "many(" + what + ")", () -> w.many(what), () -> m.many(what));
            case 32:
                return same(t, "target(" + b + ")", () -> w.target(b), () -> m.target(b));
            case 33:
                return same(t, "way(" + b + ", " + cell + ")", () -> w.way(b, cell), () -> m.way(b, cell));
            case 34:
                return same(t, "worth(" + b + ", " + what + ")", () -> w.worth(b, what), () -> m.worth(b, what));
            case 35:
                return same(t, "plan(" + b + ")", () -> w.plan(b), () -> m.plan(b));
            case 36:
                return same(t, "hit(" + b + ", " + c + ")", () -> w.hit(b, c), () -> m.hit(b, c))
                        + same(t, "danger(" + side + ", " + cell + ")", () -> w.danger(side, cell),
                        () -> m.danger(side, cell));
            default:
                return same(t, "meanLife()", () -> Double.doubleToLongBits(w.meanLife()),
                        () -> Double.doubleToLongBits(m.meanLife()));
        }
    }
}
