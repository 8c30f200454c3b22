/** Promises 8 to 13: beings. */
public final class BeingsTest {
    private static final Class<?> ARGUMENT = IllegalArgumentException.class;
    private static final Class<?> INDEX = IndexOutOfBoundsException.class;
    private static final Class<?> STATE = IllegalStateException.class;
    private static final int LOW = Integer.MIN_VALUE;
    private static final int HIGH = Integer.MAX_VALUE;

    private static final Check check = new Check("BeingsTest");

    public static void main(String[] args) {
        Cases.run(BeingsTest.class, check, 8, 13);
    }

    private static int at(int x, int y) {
        return y * 16 + x;
    }

    private static Warren hall() {
        Warren warren = new Warren();
        warren.dig(1, 1, 14, 8);
        return warren;
    }

    private static void dueOf(String when, Warren warren, int being, int... want) {
        for (int what = 0; what < want.length; what++) {
            check.due(when + ": of(" + being + ", " + what + ")", warren.of(being, what), want[what]);
        }
    }

    static void promise8Come() {
        Warren warren = hall();
        warren.set(at(3, 3), 3);
        check.due("8: the first come", warren.come(0, at(1, 1), 20), 0);
        check.due("8: come into the water", warren.come(1, at(3, 3), 1), 1);
        check.due("8: come with a life of 60", warren.come(1, at(14, 8), 60), 2);
        dueOf("8", warren, 0, 0, at(1, 1), 20, 20, 5, 2, 2, 3, 0, 0);
        dueOf("8", warren, 1, 1, at(3, 3), 1, 1, 5, 2, 2, 3, 0, 0);
        dueOf("8", warren, 2, 1, at(14, 8), 60, 60, 5, 2, 2, 3, 0, 0);
        for (int effect = 0; effect < 5; effect++) {
            check.due("8: stack of " + effect, warren.effect(0, effect, false), 0);
            check.due("8: turns of " + effect, warren.effect(0, effect, true), 0);
        }
        check.due("8: on(17)", warren.on(17), 0);
    }

    static void promise8ComesAtTheTimeOfTheTurn() {
        Warren warren = hall();
        warren.come(0, at(1, 1), 20);
        warren.act(0);
        warren.come(1, at(5, 5), 20);
        check.due("8: TIME of the TURN", warren.of(1, 8), 6);
        warren.act(0);
        check.due("8: TIME of 0 then", warren.of(0, 8), 12);
        warren.become(1, 5, 2, 4);
        warren.act(0);
        check.due("8: TIME of 1 then", warren.of(1, 8), 9);
        warren.come(0, at(8, 8), 20);
        check.due("8: the smallest TIME", warren.of(2, 8), 9);
        Warren dead = hall();
        dead.come(0, at(1, 1), 3);
        dead.lay(0, 0, 5, 5);
        dead.act(0);
        check.due("8: TIME of the dead one", dead.of(0, 8), 6);
        check.due("8: come behind the dead", dead.come(0, at(1, 1), 3), 1);
        check.due("8: TIME if all are dead", dead.of(1, 8), 0);
    }

    static void promise8ComeRefuses() {
        Warren warren = hall();
        warren.set(at(4, 4), 2);
        warren.come(0, at(1, 1), 20);
        for (int cell : new int[] {LOW, -1, 160, HIGH}) {
            check.refused("8: come(0, " + cell + ", 5)", warren, INDEX, () -> warren.come(0, cell, 5));
            check.refused("8: come(2, " + cell + ", 0)", warren, INDEX, () -> warren.come(2, cell, 0));
        }
        for (int side : new int[] {LOW, -1, 2, HIGH}) {
            check.refused("8: come(" + side + ", 18, 5)", warren, ARGUMENT, () -> warren.come(side, 18, 5));
            check.refused("8: come(" + side + ", 0, 5)", warren, ARGUMENT, () -> warren.come(side, 0, 5));
        }
        for (int life : new int[] {LOW, -1, 0, 61, HIGH}) {
            check.refused("8: come(0, 18, " + life + ")", warren, ARGUMENT, () -> warren.come(0, 18, life));
            check.refused("8: come(0, 17, " + life + ")", warren, ARGUMENT, () -> warren.come(0, 17, life));
        }
        check.refused("8: come into a wall", warren, STATE, () -> warren.come(0, 0, 5));
        check.refused("8: come into a door", warren, STATE, () -> warren.come(0, at(4, 4), 5));
        check.refused("8: come on another one", warren, STATE, () -> warren.come(1, 17, 5));
        warren.lay(0, 0, 9, 9);
        warren.act(0);
        warren.act(0);
        warren.act(0);
        check.due("8: on(17) as it is dead", warren.on(17), -1);
        for (int being = 1; being < 10; being++) {
            check.due("8: come " + being, warren.come(being % 2, 16 + being, 5), being);
        }
        check.refused("8: come of an 11th", warren, STATE, () -> warren.come(0, at(9, 8), 5));
        check.refused("8: an 11th with no life", warren, ARGUMENT, () -> warren.come(0, at(9, 8), 0));
    }

    static void promise9Become() {
        Warren warren = hall();
        warren.come(0, at(1, 1), 20);
        warren.come(1, at(3, 1), 20);
        check.due("9: become(0, 20, 0, 1)", warren.become(0, 20, 0, 1), 5);
        dueOf("9", warren, 0, 0, at(1, 1), 20, 20, 20, 0, 1, 3, 0, 0);
        dueOf("9", warren, 1, 1, at(3, 1), 20, 20, 5, 2, 2, 3, 0, 0);
        check.due("9: become(0, 0, 20, 4)", warren.become(0, 0, 20, 4), 20);
        dueOf("9", warren, 0, 0, at(1, 1), 20, 20, 0, 20, 4, 3, 0, 0);
        check.due("9: become(0, 7, 8, 3)", warren.become(0, 7, 8, 3), 0);
        dueOf("9", warren, 0, 0, at(1, 1), 20, 20, 7, 8, 3, 3, 0, 0);
        warren.act(0);
        check.due("9: TIME with a speed of 3", warren.of(0, 8), 4);
        warren.lay(1, 0, 9, 9);
        for (int i = 0; i < 6 && warren.of(1, 2) > 0; i++) {
            warren.act(0);
        }
        check.due("9: the other one is dead", warren.of(1, 2), 0);
        check.due("9: become of a dead one", warren.become(1, 9, 9, 4), 5);
        check.due("9: FORCE of a dead one", warren.of(1, 4), 9);
    }

    static void promise9BecomeRefuses() {
        Warren warren = hall();
        warren.come(0, at(1, 1), 20);
        for (int being : new int[] {LOW, -1, 1, 10, HIGH}) {
            check.refused("9: become(" + being + ", 1, 1, 1)", warren, INDEX, () -> warren.become(being, 1, 1, 1));
            check.refused("9: become(" + being + ", 21, 1, 1)", warren, INDEX, () -> warren.become(being, 21, 1, 1));
        }
        for (int wrong : new int[] {LOW, -1, 21, HIGH}) {
            check.refused("9: become(0, " + wrong + ", 1, 1)", warren, ARGUMENT, () -> warren.become(0, wrong, 1, 1));
            check.refused("9: become(0, 1, " + wrong + ", 1)", warren, ARGUMENT, () -> warren.become(0, 1, wrong, 1));
        }
        for (int wrong : new int[] {LOW, -1, 0, 5, HIGH}) {
            check.refused("9: become(0, 1, 1, " + wrong + ")", warren, ARGUMENT, () -> warren.become(0, 1, 1, wrong));
        }
    }

    static void promise10Lay() {
        Warren warren = hall();
        warren.come(0, at(1, 1), 20);
        warren.come(1, at(3, 1), 20);
        for (int effect = 0; effect < 5; effect++) {
            check.due("10: lay of " + effect, warren.lay(0, effect, 3, 5), 3);
            check.due("10: its turns", warren.effect(0, effect, true), 5);
            check.due("10: the other one's stack", warren.effect(1, effect, false), 0);
            check.due("10: lay of " + effect + " for less", warren.lay(0, effect, 2, 4), 5);
            check.due("10: its turns, the greater", warren.effect(0, effect, true), 5);
            check.due("10: lay of " + effect + " for more", warren.lay(0, effect, 4, 20), 9);
            check.due("10: its turns, the greater of both", warren.effect(0, effect, true), 20);
            check.due("10: lay of " + effect + " beyond 9", warren.lay(0, effect, 9, 1), 9);
            check.due("10: its stack", warren.effect(0, effect, false), 9);
        }
        check.due("10: lay(1, 0, 9, 1)", warren.lay(1, 0, 9, 1), 9);
        check.due("10: lay(1, 0, 1, 1)", warren.lay(1, 0, 1, 1), 9);
    }

    static void promise10LayRefuses() {
        Warren warren = hall();
        warren.come(0, at(1, 1), 20);
        warren.come(1, at(3, 1), 1);
        warren.lay(1, 0, 1, 1);
        warren.act(0);
        warren.act(0);
        for (int being : new int[] {LOW, -1, 2, 10, HIGH}) {
            check.refused("10: lay(" + being + ", 0, 1, 1)", warren, INDEX, () -> warren.lay(being, 0, 1, 1));
            check.refused("10: lay(" + being + ", 5, 0, 0)", warren, INDEX, () -> warren.lay(being, 5, 0, 0));
        }
        for (int being = 0; being < 2; being++) {
            int who = being;
            for (int effect : new int[] {LOW, -1, 5, HIGH}) {
                check.refused("10: lay of " + effect, warren, ARGUMENT, () -> warren.lay(who, effect, 1, 1));
            }
            for (int stack : new int[] {LOW, -1, 0, 10, HIGH}) {
                check.refused("10: lay a stack of " + stack, warren, ARGUMENT, () -> warren.lay(who, 1, stack, 1));
            }
            for (int turns : new int[] {LOW, -1, 0, 21, HIGH}) {
                check.refused("10: lay for " + turns, warren, ARGUMENT, () -> warren.lay(who, 1, 1, turns));
            }
        }
        for (int effect = 0; effect < 5; effect++) {
            int what = effect;
            check.refused("10: lay on a dead one", warren, STATE, () -> warren.lay(1, what, 1, 1));
        }
    }

    static void promise11Of() {
        Warren warren = hall();
        warren.come(1, at(1, 1), 30);
        warren.become(0, 6, 7, 3);
        warren.lay(0, 0, 9, 9);
        warren.act(2);
        dueOf("11: behind a go", warren, 0, 1, at(2, 1), 21, 30, 6, 7, 3, 3, 4, 0);
        warren.act(0);
        dueOf("11: behind a wait", warren, 0, 1, at(2, 1), 12, 30, 6, 7, 3, 4, 8, 0);
        warren.act(0);
        dueOf("11: afraid", warren, 0, 1, at(2, 1), 3, 30, 6, 7, 3, 5, 12, 1);
        Warren edge = hall();
        edge.come(0, at(1, 1), 30);
        edge.lay(0, 0, 5, 4);
        for (int i = 0; i < 4; i++) {
            edge.act(0);
        }
        check.due("11: LIFE is a third", edge.of(0, 2), 10);
        check.due("11: a third is not afraid", edge.of(0, 9), 0);
        edge.lay(0, 0, 1, 1);
        edge.act(0);
        check.due("11: less than a third is", edge.of(0, 9), 1);
        for (int being : new int[] {LOW, -1, 1, 10, HIGH}) {
            check.refused("11: of(" + being + ", 0)", warren, INDEX, () -> warren.of(being, 0));
            check.refused("11: of(" + being + ", 10)", warren, INDEX, () -> warren.of(being, 10));
        }
        for (int what : new int[] {LOW, -1, 10, HIGH}) {
            check.refused("11: of(0, " + what + ")", warren, ARGUMENT, () -> warren.of(0, what));
        }
    }

    static void promise11OfADeadOne() {
        Warren warren = hall();
        warren.come(0, at(5, 5), 30);
        warren.come(1, at(6, 5), 4);
        warren.become(0, 20, 2, 2);
        warren.lay(1, 4, 2, 7);
        check.due("11: the hit that kills", warren.act(2), 4);
        dueOf("11: dead", warren, 1, 1, -1, 0, 4, 5, 2, 2, 3, 0, 1);
        check.due("11: the stack stays on a dead one", warren.effect(1, 4, false), 2);
        check.due("11: the turns stay on a dead one", warren.effect(1, 4, true), 7);
        for (int i = 0; i < 9; i++) {
            warren.act(0);
        }
        check.due("11: no turn of a dead one", warren.effect(1, 4, true), 7);
        check.due("11: TIME of a dead one", warren.of(1, 8), 0);
    }

    static void promise12Effect() {
        Warren warren = hall();
        warren.come(0, at(5, 5), 30);
        warren.lay(0, 2, 4, 3);
        warren.lay(0, 4, 9, 1);
        int[][] due = {{4, 3, 9, 1}, {4, 2, 0, 0}, {4, 1, 0, 0}, {0, 0, 0, 0}, {0, 0, 0, 0}};
        for (int i = 0; i < due.length; i++) {
            check.due("12: STRONG behind " + i, warren.effect(0, 2, false), due[i][0]);
            check.due("12: turns of STRONG behind " + i, warren.effect(0, 2, true), due[i][1]);
            check.due("12: SLOW behind " + i, warren.effect(0, 4, false), due[i][2]);
            check.due("12: turns of SLOW behind " + i, warren.effect(0, 4, true), due[i][3]);
            check.due("12: POISON behind " + i, warren.effect(0, 0, false), 0);
            warren.act(0);
        }
        check.due("12: lay behind it is gone", warren.lay(0, 2, 1, 1), 1);
        for (boolean isTurns : new boolean[] {false, true}) {
            for (int being : new int[] {LOW, -1, 1, 10, HIGH}) {
                check.refused("12: effect(" + being + ", 0)", warren, INDEX, () -> warren.effect(being, 0, isTurns));
                check.refused("12: effect(" + being + ", 5)", warren, INDEX, () -> warren.effect(being, 5, isTurns));
            }
            for (int effect : new int[] {LOW, -1, 5, HIGH}) {
                check.refused("12: effect(0, " + effect + ")", warren, ARGUMENT,
                        () -> warren.effect(0, effect, isTurns));
            }
        }
    }

    private static void dueMany(String when, Warren warren, int... want) {
        for (int what = 0; what < want.length; what++) {
            check.due(when + ": many(" + what + ")", warren.many(what), want[what]);
        }
    }

    static void promise13Many() {
        Warren warren = new Warren();
        warren.dig(1, 1, 3, 1);
        dueMany("13: empty", warren, 0, 0, 0, -1, 0, 0, 0, 0, 0);
        // The LINE to a wall 2 columns off bends to the south: (3, 0) is seen from (1, 1), and (3, 2) is not.
        warren.come(0, at(1, 1), 9);
        dueMany("13: one", warren, 1, 1, 0, 0, 0, 0, 12, 0, 0);
        warren.come(1, at(2, 1), 3);
        dueMany("13: two", warren, 2, 1, 1, 0, 0, 0, 12, 13, 0);
        warren.act(0);
        dueMany("13: behind a wait", warren, 2, 1, 1, 1, 1, 0, 12, 13, 0);
        warren.act(4);
        dueMany("13: behind a hit", warren, 2, 1, 1, 0, 2, 1, 12, 13, 0);
        warren.save();
        warren.become(0, 20, 0, 2);
        warren.act(2);
        dueMany("13: one dead", warren, 2, 1, 0, 0, 3, 2, 12, 13, 1);
        warren.lay(0, 0, 9, 1);
        warren.act(2);
        dueMany("13: all dead", warren, 2, 0, 0, -1, 4, 2, 12, 13, 1);
        warren.save();
        check.due("13: many(8)", warren.many(8), 2);
        for (int what : new int[] {LOW, -1, 9, HIGH}) {
            check.refused("13: many(" + what + ")", warren, ARGUMENT, () -> warren.many(what));
        }
    }
}
