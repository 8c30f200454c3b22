/** Promises 1 to 7: a new object, and the map. */
public final class MapTest {
    private static final Class<?> ARGUMENT = IllegalArgumentException.class;
    private static final Class<?> INDEX = IndexOutOfBoundsException.class;
    private static final Class<?> STATE = IllegalStateException.class;
    private static final int[] ODD = {Integer.MIN_VALUE, -161, -16, -1, 160, 161, 176, Integer.MAX_VALUE};

    private static final Check check = new Check("MapTest");

    public static void main(String[] args) {
        Cases.run(MapTest.class, check, 1, 7);
    }

    private static int at(int x, int y) {
        return y * 16 + x;
    }

    private static Warren hall() {
        Warren warren = new Warren();
        warren.dig(1, 1, 14, 8);
        return warren;
    }

    static void promise1NewObject() {
        Warren asked = new Warren();
        for (int cell = 0; cell < 160; cell++) {
            check.due("1: cell(" + cell + ") of a new one", asked.cell(cell), 1);
            check.due("1: on(" + cell + ") of a new one", asked.on(cell), -1);
            check.due("1: knows(" + cell % 2 + ", " + cell + ") of a new one", asked.knows(cell % 2, cell), false);
        }
        Warren warren = new Warren();
        for (int what = 0; what <= 8; what++) {
            check.due("1: many(" + what + ") of a new one", warren.many(what), what == 3 ? -1 : 0);
        }
        check.refused("1: of(0, 0) of a new one", warren, INDEX, () -> warren.of(0, 0));
        check.refused("1: load(0) of a new one", warren, INDEX, () -> warren.load(0));
        Warren other = new Warren();
        other.dig(1, 1, 3, 3);
        check.due("1: cell(17), another one dug", warren.cell(17), 1);
    }

    static void promise2Dig() {
        Warren warren = new Warren();
        check.due("2: dig(3, 2, 1, 1)", warren.dig(3, 2, 1, 1), 1);
        for (int cell = 0; cell < 160; cell++) {
            check.due("2: cell(" + cell + ") behind dig(3, 2, 1, 1)", warren.cell(cell), cell == 35 ? 0 : 1);
        }
        check.due("2: dig(3, 2, 1, 1) again", warren.dig(3, 2, 1, 1), 0);
        check.due("2: dig(2, 1, 3, 2)", warren.dig(2, 1, 3, 2), 5);
        check.due("2: dig(0, 0, 16, 10)", warren.dig(0, 0, 16, 10), 112 - 6);
        for (int cell = 0; cell < 160; cell++) {
            boolean isRim = cell < 16 || cell >= 144 || cell % 16 == 0 || cell % 16 == 15;
            check.due("2: cell(" + cell + ") behind dig of all", warren.cell(cell), isRim ? 1 : 0);
        }
        warren.set(at(5, 5), 1);
        warren.set(at(6, 5), 2);
        warren.set(at(7, 5), 3);
        warren.come(0, at(7, 5), 9);
        check.due("2: dig over a wall, a door and water", warren.dig(5, 5, 4, 1), 3);
        check.due("2: the door", warren.cell(at(6, 5)), 0);
        check.due("2: the water", warren.cell(at(7, 5)), 0);
        check.due("2: who stood in the water", warren.on(at(7, 5)), 0);
        check.due("2: dig(15, 9, 1, 1)", warren.dig(15, 9, 1, 1), 0);
        check.due("2: dig(15, 0, 1, 10)", warren.dig(15, 0, 1, 10), 0);
    }

    static void promise2DigRefuses() {
        int[][] wrong = {
            {-1, 1, 1, 1}, {16, 1, 1, 1}, {1, -1, 1, 1}, {1, 10, 1, 1}, {1, 1, 0, 1}, {1, 1, 16, 1}, {1, 1, 1, 0},
            {1, 1, 1, 10}, {0, 0, 17, 10}, {0, 0, 16, 11}, {15, 9, 2, 1}, {15, 9, 1, 2}, {1, 1, -1, -1},
            {Integer.MIN_VALUE, 1, 1, 1}, {Integer.MAX_VALUE, 1, 1, 1}, {1, Integer.MIN_VALUE, 1, 1},
            {1, Integer.MAX_VALUE, 1, 1}, {1, 1, Integer.MIN_VALUE, 1}, {1, 1, Integer.MAX_VALUE, 1},
            {1, 1, 1, Integer.MIN_VALUE}, {1, 1, 1, Integer.MAX_VALUE},
        };
        Warren warren = new Warren();
        for (int[] a : wrong) {
            check.refused("2: dig(" + a[0] + ", " + a[1] + ", " + a[2] + ", " + a[3] + ")", warren, ARGUMENT,
                    () -> warren.dig(a[0], a[1], a[2], a[3]));
        }
    }

    static void promise3Set() {
        Warren warren = new Warren();
        int[] kinds = {0, 3, 2, 1, 1, 2, 3, 0, 0};
        int before = 1;
        for (int kind : kinds) {
            check.due("3: set(17, " + kind + ")", warren.set(17, kind), before);
            check.due("3: cell(17) behind set to " + kind, warren.cell(17), kind);
            before = kind;
        }
        check.due("3: set(142, 3)", warren.set(142, 3), 1);
        check.due("3: cell(142)", warren.cell(142), 3);
        check.due("3: set(0, 1)", warren.set(0, 1), 1);
        check.due("3: set(159, 1)", warren.set(159, 1), 1);
        warren.come(0, 17, 5);
        check.due("3: set(17, 3) under a being", warren.set(17, 3), 0);
        check.due("3: set(17, 0) under a being", warren.set(17, 0), 3);
        warren.lay(0, 0, 9, 1);
        warren.act(0);
        check.due("3: set(17, 2) where one died", warren.set(17, 2), 0);
        check.due("3: set(17, 1) where one died", warren.set(17, 1), 2);
    }

    static void promise3SetRefuses() {
        Warren warren = hall();
        warren.come(1, 17, 5);
        for (int cell : ODD) {
            check.refused("3: set(" + cell + ", 0)", warren, INDEX, () -> warren.set(cell, 0));
            check.refused("3: set(" + cell + ", 4)", warren, INDEX, () -> warren.set(cell, 4));
        }
        for (int kind : new int[] {Integer.MIN_VALUE, -1, 4, Integer.MAX_VALUE}) {
            check.refused("3: set(18, " + kind + ")", warren, ARGUMENT, () -> warren.set(18, kind));
            check.refused("3: set(17, " + kind + ") under a being", warren, ARGUMENT, () -> warren.set(17, kind));
        }
        for (int cell : new int[] {0, 7, 15, 16, 31, 32, 128, 143, 144, 150, 159}) {
            for (int kind : new int[] {0, 2, 3}) {
                check.refused("3: set(" + cell + ", " + kind + ")", warren, ARGUMENT, () -> warren.set(cell, kind));
            }
        }
        check.refused("3: set(17, 1) under a being", warren, STATE, () -> warren.set(17, 1));
        check.refused("3: set(17, 2) under a being", warren, STATE, () -> warren.set(17, 2));
    }

    static void promise4Cell() {
        Warren warren = hall();
        warren.set(20, 3);
        warren.set(21, 2);
        check.due("4: cell(0)", warren.cell(0), 1);
        check.due("4: cell(17)", warren.cell(17), 0);
        check.due("4: cell(20)", warren.cell(20), 3);
        check.due("4: cell(21)", warren.cell(21), 2);
        check.due("4: cell(159)", warren.cell(159), 1);
        for (int cell : ODD) {
            check.refused("4: cell(" + cell + ")", warren, INDEX, () -> warren.cell(cell));
        }
    }

    static void promise5On() {
        Warren warren = hall();
        warren.come(0, 17, 5);
        warren.come(1, 142, 6);
        check.due("5: on(17)", warren.on(17), 0);
        check.due("5: on(142)", warren.on(142), 1);
        check.due("5: on(18)", warren.on(18), -1);
        check.due("5: on(0)", warren.on(0), -1);
        warren.act(2);
        check.due("5: on(17) behind a go", warren.on(17), -1);
        check.due("5: on(18) behind a go", warren.on(18), 0);
        warren.lay(1, 0, 6, 2);
        warren.act(0);
        check.due("5: on(142) of a dead one", warren.on(142), -1);
        check.due("5: on(159)", warren.on(159), -1);
        for (int cell : ODD) {
            check.refused("5: on(" + cell + ")", warren, INDEX, () -> warren.on(cell));
        }
    }

    private static void bothWays(Warren warren, int one, int other, boolean want) {
        check.due("6: sees(" + one + ", " + other + ")", warren.sees(one, other), want);
        check.due("6: sees(" + other + ", " + one + ")", warren.sees(other, one), want);
    }

    static void promise6Sees() {
        Warren warren = hall();
        bothWays(warren, at(1, 1), at(8, 1), true);
        bothWays(warren, at(1, 1), at(9, 1), false);
        bothWays(warren, at(1, 1), at(8, 8), true);
        bothWays(warren, at(8, 1), at(1, 8), true);
        bothWays(warren, at(9, 8), at(1, 7), false);
        bothWays(warren, at(3, 1), at(3, 8), true);
        bothWays(warren, at(3, 1), at(3, 9), false);
        bothWays(warren, at(3, 1), at(4, 0), true);
        bothWays(warren, at(14, 1), at(17, 0), false);
        warren.set(at(5, 4), 1);
        bothWays(warren, at(4, 4), at(5, 4), true);
        bothWays(warren, at(4, 4), at(6, 4), false);
        bothWays(warren, at(5, 4), at(8, 4), true);
        warren.set(at(5, 4), 2);
        bothWays(warren, at(4, 4), at(6, 4), false);
        warren.set(at(5, 4), 3);
        bothWays(warren, at(4, 4), at(6, 4), true);
        warren.come(0, at(5, 4), 5);
        bothWays(warren, at(4, 4), at(6, 4), true);
        Warren solid = new Warren();
        check.due("6: sees(0, 0)", solid.sees(0, 0), true);
        check.due("6: sees(159, 159)", solid.sees(159, 159), true);
        bothWays(solid, 0, 17, true);
        bothWays(solid, 0, 34, false);
        bothWays(solid, 15, 16, false);
        for (int cell : ODD) {
            check.refused("6: sees(" + cell + ", 17)", warren, INDEX, () -> warren.sees(cell, 17));
            check.refused("6: sees(17, " + cell + ")", warren, INDEX, () -> warren.sees(17, cell));
            check.refused("6: sees twice " + cell, warren, INDEX, () -> warren.sees(cell, cell));
        }
    }

    /** Of two nearest numbers the greater one is taken: the line bends to the east and to the south. */
    static void promise6SeesAlongTheLine() {
        int[][] lines = {
            // from, to, then the columns and rows between them
            {3, 3, 5, 4, 4, 4},
            {3, 4, 5, 3, 4, 4},
            {3, 3, 4, 5, 4, 4},
            {4, 3, 3, 5, 4, 4},
            {2, 2, 5, 3, 3, 2, 4, 3},
            {2, 3, 5, 2, 3, 3, 4, 2},
            {2, 2, 6, 3, 3, 2, 4, 3, 5, 3},
            {2, 3, 6, 2, 3, 3, 4, 3, 5, 2},
            {2, 2, 6, 5, 3, 3, 4, 4, 5, 4},
            {2, 2, 9, 5, 3, 2, 4, 3, 5, 3, 6, 4, 7, 4, 8, 5},
            {9, 2, 2, 5, 8, 2, 7, 3, 6, 3, 5, 4, 4, 4, 3, 5},
        };
        for (int[] line : lines) {
            boolean[] isBetween = new boolean[160];
            for (int i = 4; i < line.length; i += 2) {
                isBetween[at(line[i], line[i + 1])] = true;
            }
            int one = at(line[0], line[1]);
            int other = at(line[2], line[3]);
            for (int cell = 0; cell < 160; cell++) {
                if (cell % 16 % 15 != 0 && cell / 16 % 9 != 0) {
                    Warren warren = hall();
                    warren.set(cell, cell % 2 == 0 ? 1 : 2);
                    check.due("6: sees(" + one + ", " + other + ") past " + cell, warren.sees(one, other),
                            !isBetween[cell]);
                    check.due("6: sees(" + other + ", " + one + ") past " + cell, warren.sees(other, one),
                            !isBetween[cell]);
                }
            }
        }
    }

    static void promise7Knows() {
        Warren warren = new Warren();
        warren.dig(1, 1, 3, 3);
        warren.set(at(4, 2), 2);
        warren.set(at(5, 2), 0);
        warren.come(0, at(2, 2), 5);
        for (int cell = 0; cell < 160; cell++) {
            boolean isNear = cell % 16 <= 4 && cell / 16 <= 4;
            check.due("7: knows(0, " + cell + ") as it came", warren.knows(0, cell), isNear);
            check.due("7: knows(1, " + cell + ") as it came", warren.knows(1, cell), false);
        }
        warren.set(at(4, 2), 0);
        check.due("7: knows(0, (5, 2)) as a door fell", warren.knows(0, at(5, 2)), false);
        warren.come(1, at(5, 2), 5);
        check.due("7: knows(0, (5, 2)) as a foe came", warren.knows(0, at(5, 2)), false);
        check.due("7: knows(1, (3, 2)) as it came", warren.knows(1, at(3, 2)), true);
        warren.act(0);
        check.due("7: knows(0, (5, 2)) behind an action", warren.knows(0, at(5, 2)), true);
        warren.set(at(3, 2), 1);
        check.due("7: knows(0, (5, 2)) behind a wall", warren.knows(0, at(5, 2)), true);
        for (int cell : ODD) {
            check.refused("7: knows(0, " + cell + ")", warren, INDEX, () -> warren.knows(0, cell));
            check.refused("7: knows(2, " + cell + ")", warren, ARGUMENT, () -> warren.knows(2, cell));
        }
        for (int side : new int[] {Integer.MIN_VALUE, -1, 2, Integer.MAX_VALUE}) {
            check.refused("7: knows(" + side + ", 17)", warren, ARGUMENT, () -> warren.knows(side, 17));
        }
    }

    static void promise7KnowsBehindActions() {
        Warren warren = new Warren();
        warren.dig(1, 1, 14, 1);
        warren.come(0, at(1, 1), 9);
        warren.come(0, at(2, 1), 9);
        check.due("7: knows(0, (9, 1))", warren.knows(0, at(9, 1)), true);
        check.due("7: knows(0, (10, 1))", warren.knows(0, at(10, 1)), false);
        warren.act(0);
        warren.act(2);
        check.due("7: knows(0, (10, 1)) behind a go", warren.knows(0, at(10, 1)), true);
        warren.act(0);
        warren.lay(1, 0, 9, 1);
        warren.act(2);
        check.due("7: of(1, 2), dead by its poison", warren.of(1, 2), 0);
        check.due("7: knows(0, (11, 1)), dead behind its action", warren.knows(0, at(11, 1)), false);
        check.due("7: knows(0, (10, 1)), whoever died", warren.knows(0, at(10, 1)), true);
        Warren door = new Warren();
        door.dig(1, 1, 2, 1);
        door.set(at(3, 1), 2);
        door.set(at(4, 1), 0);
        door.come(1, at(2, 1), 9);
        check.due("7: knows(1, (4, 1)) before the door", door.knows(1, at(4, 1)), false);
        door.act(2);
        check.due("7: knows(1, (4, 1)) behind opening", door.knows(1, at(4, 1)), true);
        check.due("7: knows(0, (4, 1)) behind opening", door.knows(0, at(4, 1)), false);
    }
}
