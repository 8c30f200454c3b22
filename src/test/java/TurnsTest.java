/** Promises 14 and 15: turns. */
public final class TurnsTest {
    private static final Class<?> ARGUMENT = IllegalArgumentException.class;
    private static final Class<?> STATE = IllegalStateException.class;
    private static final int LOW = Integer.MIN_VALUE;
    private static final int HIGH = Integer.MAX_VALUE;

    private static final Check check = new Check("TurnsTest");

    public static void main(String[] args) {
        Cases.run(TurnsTest.class, check, 14, 15);
    }

    private static int at(int x, int y) {
        return y * 16 + x;
    }

    private static Warren hall() {
        Warren warren = new Warren();
        warren.dig(1, 1, 14, 8);
        return warren;
    }

    static void promise14WhoseTurn() {
        Warren warren = hall();
        warren.come(0, at(1, 1), 20);
        warren.come(1, at(14, 8), 20);
        warren.come(0, at(1, 8), 20);
        warren.become(0, 5, 2, 4);
        warren.become(1, 5, 2, 3);
        warren.become(2, 5, 2, 1);
        // The TIMES then: 3 4 12, 6 4 12, 6 8 12, 9 8 12, 9 12 12, 12 12 12, 15 12 12, 15 16 12, 15 16 24
        int[] due = {0, 1, 2, 0, 1, 0, 1, 0, 0, 1, 2, 0};
        for (int i = 0; i < due.length; i++) {
            check.due("14: whose turn, " + i, warren.many(3), due[i]);
            warren.act(0);
        }
    }

    static void promise14Wait() {
        Warren warren = hall();
        warren.come(0, at(5, 5), 20);
        for (int mana = 3; mana < 12; mana++) {
            check.due("14: MANA", warren.of(0, 7), Math.min(mana, 9));
            check.due("14: act(0)", warren.act(0), 0);
        }
        check.due("14: MANA at most", warren.of(0, 7), 9);
        check.due("14: where it waits", warren.of(0, 1), at(5, 5));
        check.due("14: ACTIONS", warren.many(4), 9);
    }

    static void promise14Go() {
        Warren warren = hall();
        warren.set(at(6, 6), 3);
        warren.come(0, at(5, 5), 20);
        int[] actions = {2, 3, 4, 1};
        int[] cells = {at(6, 5), at(6, 6), at(5, 6), at(5, 5)};
        for (int i = 0; i < 4; i++) {
            check.due("14: act(" + actions[i] + ")", warren.act(actions[i]), 0);
            check.due("14: where it is", warren.of(0, 1), cells[i]);
            check.due("14: who is there", warren.on(cells[i]), 0);
            check.due("14: MANA stays", warren.of(0, 7), 3);
        }
        check.due("14: the water stays", warren.cell(at(6, 6)), 3);
        check.due("14: no HITS", warren.many(5), 0);
        warren.set(at(5, 4), 1);
        warren.come(0, at(6, 5), 20);
        warren.come(1, at(4, 5), 20);
        check.refused("14: go into a wall", warren, STATE, () -> warren.act(1));
        check.refused("14: go on its own side", warren, STATE, () -> warren.act(2));
        check.due("14: go on the other side", warren.act(4), 3);
        Warren corner = hall();
        corner.come(1, at(14, 8), 5);
        check.refused("14: go to the rim, east", corner, STATE, () -> corner.act(2));
        check.refused("14: go to the rim, south", corner, STATE, () -> corner.act(3));
    }

    static void promise14Hit() {
        Warren warren = hall();
        warren.come(0, at(5, 5), 20);
        warren.come(1, at(5, 4), 20);
        check.due("14: FORCE less GUARD", warren.act(1), 3);
        check.due("14: LIFE less", warren.of(1, 2), 17);
        check.due("14: it stays", warren.of(0, 1), at(5, 5));
        check.due("14: so does the other one", warren.of(1, 1), at(5, 4));
        check.due("14: HITS", warren.many(5), 1);
        warren.lay(1, 2, 4, 9);
        warren.lay(0, 3, 2, 9);
        check.due("14: with STRONG against SHIELD", warren.act(3), 5);
        warren.become(0, 0, 0, 2);
        check.due("14: 1 at the least", warren.act(1), 1);
        warren.become(1, 20, 0, 2);
        check.due("14: no more than it had", warren.act(3), 15);
        check.due("14: dead", warren.of(0, 2), 0);
        check.due("14: whose turn then", warren.many(3), 1);
        check.due("14: HITS then", warren.many(5), 4);
        check.due("14: go where one died", warren.act(3), 0);
        check.due("14: where it is", warren.of(1, 1), at(5, 5));
        Warren just = hall();
        just.come(0, at(5, 5), 20);
        just.come(1, at(4, 5), 3);
        check.due("14: just all of it", just.act(4), 3);
        check.due("14: dead by that", just.of(1, 1), -1);
    }

    static void promise14Door() {
        Warren warren = hall();
        warren.set(at(5, 6), 2);
        warren.come(0, at(5, 5), 20);
        check.due("14: open a door", warren.act(3), 0);
        check.due("14: it is floor", warren.cell(at(5, 6)), 0);
        check.due("14: it stays", warren.of(0, 1), at(5, 5));
        check.due("14: it took its time", warren.of(0, 8), 6);
        warren.act(3);
        check.due("14: then it goes", warren.of(0, 1), at(5, 6));
    }

    private static void dueEffect(String when, Warren warren, int being, int effect, int stack, int turns) {
        check.due("14: " + when + ", stack", warren.effect(being, effect, false), stack);
        check.due("14: " + when + ", turns", warren.effect(being, effect, true), turns);
    }

    static void promise14Magic() {
        Warren warren = hall();
        warren.come(0, at(5, 5), 20);
        warren.come(1, at(8, 5), 20);
        check.due("14: act(5)", warren.act(5), 0);
        dueEffect("POISON on the target", warren, 1, 0, 2, 3);
        dueEffect("no POISON on itself", warren, 0, 0, 0, 0);
        check.due("14: MANA less", warren.of(0, 7), 0);
        check.due("14: no LIFE less yet", warren.of(1, 2), 20);
        check.due("14: act(6)", warren.act(6), 0);
        dueEffect("SHIELD counts already", warren, 1, 3, 3, 3);
        dueEffect("POISON has a turn less", warren, 1, 0, 2, 2);
        check.due("14: LIFE less by POISON", warren.of(1, 2), 18);
        for (int action = 5; action <= 7; action++) {
            int which = action;
            check.refused("14: act(" + action + ") without MANA", warren, STATE, () -> warren.act(which));
        }
        for (int i = 0; i < 4; i++) {
            warren.act(0);
        }
        check.due("14: MANA is 2", warren.of(0, 7), 2);
        check.refused("14: act(7) with 2", warren, STATE, () -> warren.act(7));
        warren.act(0);
        warren.act(0);
        check.due("14: act(7) with 3", warren.act(7), 0);
        dueEffect("REST counts already", warren, 0, 1, 2, 3);
        check.due("14: LIFE is the most already", warren.of(0, 2), 20);
        Warren blind = hall();
        blind.come(0, at(5, 5), 20);
        check.refused("14: act(5) without foes", blind, STATE, () -> blind.act(5));
        blind.come(1, at(13, 5), 20);
        check.refused("14: act(5) too far", blind, STATE, () -> blind.act(5));
        blind.come(1, at(12, 5), 20);
        blind.lay(2, 0, 8, 1);
        check.due("14: act(5) near enough", blind.act(5), 0);
        dueEffect("POISON is 9 at most, and 3 the more turns", blind, 2, 0, 9, 3);
    }

    static void promise14PoisonAndRest() {
        Warren warren = hall();
        warren.come(0, at(5, 5), 20);
        warren.lay(0, 0, 5, 2);
        warren.lay(0, 1, 3, 3);
        warren.act(0);
        check.due("14: POISON, then REST", warren.of(0, 2), 18);
        warren.act(0);
        check.due("14: both again", warren.of(0, 2), 16);
        warren.act(0);
        check.due("14: REST alone", warren.of(0, 2), 19);
        warren.act(0);
        check.due("14: none of both", warren.of(0, 2), 19);
        warren.lay(0, 1, 9, 1);
        warren.act(0);
        check.due("14: MOST LIFE at most", warren.of(0, 2), 20);
        warren.lay(0, 0, 3, 1);
        warren.lay(0, 1, 2, 1);
        warren.act(0);
        check.due("14: REST is not ahead of POISON", warren.of(0, 2), 19);
    }

    static void promise14Time() {
        int[] speeds = {1, 2, 3, 4};
        int[] times = {12, 6, 4, 3};
        for (int i = 0; i < 4; i++) {
            Warren warren = hall();
            warren.come(0, at(5, 5), 20);
            warren.become(0, 5, 5, speeds[i]);
            warren.act(0);
            check.due("14: TIME with a speed of " + speeds[i], warren.of(0, 8), times[i]);
            warren.lay(0, 4, 7, 2);
            warren.act(2);
            check.due("14: TIME with SLOW", warren.of(0, 8), 3 * times[i]);
            warren.act(6);
            check.due("14: TIME with its last SLOW", warren.of(0, 8), 5 * times[i]);
            warren.act(0);
            check.due("14: TIME without SLOW", warren.of(0, 8), 6 * times[i]);
        }
    }

    static void promise14DeadByPoison() {
        Warren warren = hall();
        warren.come(0, at(5, 5), 4);
        warren.come(1, at(6, 5), 20);
        warren.lay(0, 0, 4, 3);
        warren.lay(0, 1, 9, 2);
        warren.lay(0, 4, 1, 1);
        check.due("14: it hits, and dies", warren.act(2), 3);
        check.due("14: LIFE", warren.of(0, 2), 0);
        check.due("14: CELL", warren.of(0, 1), -1);
        check.due("14: on(its cell)", warren.on(at(5, 5)), -1);
        check.due("14: TIME of the dead one", warren.of(0, 8), 12);
        dueEffect("POISON of the dead one", warren, 0, 0, 4, 2);
        dueEffect("REST of the dead one", warren, 0, 1, 9, 1);
        dueEffect("SLOW of the dead one", warren, 0, 4, 0, 0);
        check.due("14: ACTIONS", warren.many(4), 1);
        Warren less = hall();
        less.come(0, at(5, 5), 4);
        less.lay(0, 0, 9, 3);
        less.act(0);
        check.due("14: LIFE is not below 0", less.of(0, 2), 0);
        check.refused("14: no turn", less, STATE, () -> less.act(0));
    }

    static void promise14Refuses() {
        Warren empty = new Warren();
        Warren warren = hall();
        warren.come(0, at(1, 1), 5);
        for (int action : new int[] {LOW, -1, 8, HIGH}) {
            check.refused("14: act(" + action + ")", warren, ARGUMENT, () -> warren.act(action));
            check.refused("14: act(" + action + ") without beings", empty, ARGUMENT, () -> empty.act(action));
        }
        for (int action = 0; action < 8; action++) {
            int which = action;
            check.refused("14: act(" + action + ") without beings", empty, STATE, () -> empty.act(which));
        }
        check.refused("14: act(1) at a wall", warren, STATE, () -> warren.act(1));
        check.refused("14: act(4) at a wall", warren, STATE, () -> warren.act(4));
    }

    static void promise15Follow() {
        Warren warren = hall();
        warren.come(0, at(2, 2), 20);
        warren.come(1, at(8, 2), 20);
        check.due("15: follow(1)", warren.follow(1), 1);
        check.due("15: it goes east", warren.of(0, 1), at(3, 2));
        check.due("15: follow(1)", warren.follow(1), 1);
        check.due("15: the other one goes west", warren.of(1, 1), at(7, 2));
        check.due("15: follow(2)", warren.follow(2), 2);
        check.due("15: 0 at", warren.of(0, 1), at(4, 2));
        check.due("15: 1 at", warren.of(1, 1), at(6, 2));
        // Side by side a HIT is worth 29 and the SHIELD 24.
        check.due("15: follow(2)", warren.follow(2), 2);
        check.due("15: 0 beside", warren.of(0, 1), at(5, 2));
        check.due("15: one has hit", warren.of(0, 2), 17);
        check.due("15: HITS", warren.many(5), 1);
        check.due("15: ACTIONS", warren.many(4), 6);
        for (int i = 0; i < 40; i++) {
            Warren one = hall();
            one.come(0, at(2, 2), 20);
            one.come(1, at(8, 2), 20);
            check.due("15: follow(" + (i + 1) + ")", one.follow(i + 1), Math.min(i + 1, 18));
            Warren many = hall();
            many.come(0, at(2, 2), 20);
            many.come(1, at(8, 2), 20);
            for (int k = 0; k <= i; k++) {
                many.follow(1);
            }
            check.due("15: one by one is the same", many.digest(), one.digest());
        }
    }

    static void promise15FollowEnds() {
        Warren warren = hall();
        check.due("15: nobody", warren.follow(5), 0);
        warren.come(0, at(5, 5), 20);
        check.due("15: one side alone", warren.follow(40), 0);
        warren.come(0, at(5, 8), 20);
        check.due("15: two of one side", warren.follow(40), 0);
        check.due("15: no ACTIONS", warren.many(4), 0);
        warren.come(1, at(6, 5), 3);
        check.due("15: the last one of a side dies", warren.follow(40), 1);
        check.due("15: many(2)", warren.many(2), 0);
        check.due("15: no more then", warren.follow(1), 0);
        Warren poison = hall();
        poison.come(0, at(5, 5), 1);
        poison.come(1, at(12, 8), 3);
        poison.lay(0, 0, 1, 1);
        check.due("15: the one that acts dies", poison.follow(9), 1);
        check.due("15: many(1)", poison.many(1), 0);
        Warren shut = new Warren();
        shut.dig(1, 1, 2, 1);
        shut.dig(5, 5, 2, 1);
        shut.come(0, at(1, 1), 60);
        shut.come(1, at(5, 5), 60);
        check.due("15: none comes to the other one", shut.follow(40), 40);
        check.due("15: they wait", shut.many(4), 40);
        check.due("15: with more MANA", shut.of(0, 7), 9);
    }

    static void promise15Refuses() {
        Warren warren = hall();
        warren.come(0, at(2, 2), 20);
        warren.come(1, at(8, 2), 20);
        for (int turns : new int[] {LOW, -1, 0, 41, HIGH}) {
            check.refused("15: follow(" + turns + ")", warren, ARGUMENT, () -> warren.follow(turns));
        }
    }
}
