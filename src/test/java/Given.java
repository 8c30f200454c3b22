import java.util.Arrays;
import java.util.function.Supplier;

/**
 * The states that the edges are asked in: from nothing at all to as much of everything as there can be. Each get()
 * makes another object, in the same state; it takes fewer than 170 calls.
 */
enum Given implements Supplier<Warren> {
    /** Nothing dug, no being, no game. */
    NEW(0) {
        @Override
        public Warren get() {
            return new Warren();
        }
    },
    /** One room over all of the map, and nobody in it. */
    HALL(0) {
        @Override
        public Warren get() {
            return hall();
        }
    },
    /** Beings of the side 1 alone. */
    ONE_SIDE(2) {
        @Override
        public Warren get() {
            Warren warren = hall();
            warren.come(1, at(4, 4), 20);
            warren.come(1, at(6, 4), 7);
            warren.save();
            return warren;
        }
    },
    /** One of each side, a door, water and a wall, some actions and one saved game. */
    PAIR(2) {
        @Override
        public Warren get() {
            Warren warren = hall();
            warren.set(at(6, 5), 2);
            warren.set(at(7, 5), 3);
            warren.set(at(6, 3), 1);
            warren.come(0, at(4, 4), 20);
            warren.come(1, at(8, 4), 25);
            warren.save();
            warren.lay(1, 2, 3, 9);
            warren.follow(5);
            return warren;
        }
    },
    /** The side 0 is dead, one of the side 1 is not. */
    SIDE_0_DEAD(2) {
        @Override
        public Warren get() {
            Warren warren = hall();
            warren.come(0, at(4, 4), 3);
            warren.come(1, at(8, 4), 25);
            warren.lay(0, 0, 4, 3);
            warren.save();
            warren.act(0);
            return warren;
        }
    },
    /** Both sides came, and all are dead. */
    ALL_DEAD(2) {
        @Override
        public Warren get() {
            Warren warren = hall();
            warren.come(0, at(4, 4), 3);
            warren.come(1, at(8, 4), 9);
            warren.lay(0, 0, 4, 3);
            warren.lay(1, 0, 9, 20);
            warren.act(0);
            warren.act(0);
            warren.save();
            return warren;
        }
    },
    /** 10 beings with as much MANA, and with STACKS and TURNS as great, as they can have, and 5 saved games. */
    FULL(10) {
        @Override
        public Warren get() {
            Warren warren = hall();
            warren.save();
            for (int being = 0; being < 10; being++) {
                warren.come(being % 2, at(2 + being, 2 + being % 6), 60);
            }
            warren.save();
            waitForMana(warren);
            warren.save();
            for (int being = 0; being < 10; being++) {
                warren.become(being, 2 * being, being, 1 + being % 4);
                for (int effect = 0; effect < 5; effect++) {
                    warren.lay(being, effect, 9, 20);
                }
            }
            warren.save();
            warren.act(0);
            warren.save();
            return warren;
        }

        private void waitForMana(Warren warren) {
            for (int i = 0; i < 60; i++) {
                warren.act(0);
            }
        }
    };

    private static final int[] WRAPS = {
        // by a byte, by a short, by the columns (16), the traits (9) and the effects (5) of an index, and by a shift
        -256, 256, -65536, 65536, -(1 << 28), 1 << 28, 1 << 31, 477218589, -477218589, 954437177, -954437177, 858993459,
        -858993459, -32, 32,
    };

    final int beings;

    Given(int beings) {
        this.beings = beings;
    }

    static int at(int x, int y) {
        return y * 16 + x;
    }

    static Warren hall() {
        Warren warren = new Warren();
        warren.dig(1, 1, 14, 8);
        return warren;
    }

    /** The numbers next to those from least to most, the smallest and the largest, and some that wrap into them. */
    static int[] outside(int least, int most) {
        int[] all = new int[6 + 2 * WRAPS.length];
        all[0] = Integer.MIN_VALUE;
        all[1] = Integer.MIN_VALUE + 1;
        all[2] = Integer.MAX_VALUE - 1;
        all[3] = Integer.MAX_VALUE;
        all[4] = least - 1;
        all[5] = most + 1;
        for (int i = 0; i < WRAPS.length; i++) {
            all[6 + 2 * i] = least + WRAPS[i];
            all[7 + 2 * i] = most + WRAPS[i];
        }
        return Arrays.stream(all).filter(number -> number < least || number > most).distinct().toArray();
    }
}
