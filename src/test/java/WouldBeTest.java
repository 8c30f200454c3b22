/** Promises 22 to 26: what would be. */
public final class WouldBeTest {
    private static final Class<?> ARGUMENT = IllegalArgumentException.class;
    private static final Class<?> INDEX = IndexOutOfBoundsException.class;
    private static final int LOW = Integer.MIN_VALUE;
    private static final int HIGH = Integer.MAX_VALUE;

    private static final Check check = new Check("WouldBeTest");

    public static void main(String[] args) {
        Cases.run(WouldBeTest.class, check, 22, 26);
    }

    private static int at(int x, int y) {
        return y * 16 + x;
    }

    private static Warren hall() {
        Warren warren = new Warren();
        warren.dig(1, 1, 14, 8);
        return warren;
    }

    static void promise22Hit() {
        Warren warren = hall();
        warren.come(0, at(2, 2), 2);
        warren.come(1, at(14, 8), 20);
        warren.come(0, at(7, 7), 20);
        check.due("22: far off", warren.hit(0, 1), 3);
        check.due("22: more than it has", warren.hit(1, 0), 3);
        check.due("22: of one side", warren.hit(0, 2), 3);
        check.due("22: itself", warren.hit(2, 2), 3);
        warren.become(0, 20, 1, 2);
        warren.become(1, 0, 20, 2);
        check.due("22: FORCE is no more than GUARD", warren.hit(0, 1), 1);
        check.due("22: FORCE is less", warren.hit(1, 1), 1);
        check.due("22: 20 less 2", warren.hit(0, 2), 18);
        warren.lay(0, 2, 9, 1);
        check.due("22: STRONG", warren.hit(0, 1), 9);
        check.due("22: STRONG of itself", warren.hit(0, 0), 28);
        warren.lay(1, 3, 4, 1);
        check.due("22: SHIELD", warren.hit(0, 1), 5);
        check.due("22: STRONG of the other one is nothing", warren.hit(1, 0), 1);
        warren.become(2, 3, 2, 1);
        check.due("22: 2 more than GUARD", warren.hit(2, 0), 2);
        check.due("22: HITS are not counted", warren.many(5), 0);
        check.due("22: LIFE is as it was", warren.of(0, 2), 2);
        warren.lay(0, 0, 2, 1);
        warren.act(0);
        check.due("22: of a dead one", warren.hit(0, 2), 0);
        check.due("22: on a dead one", warren.hit(2, 0), 0);
        check.due("22: of a dead one on itself", warren.hit(0, 0), 0);
    }

    static void promise22HitRefuses() {
        Warren warren = hall();
        warren.come(0, at(2, 2), 20);
        for (int being : new int[] {LOW, -1, 1, 10, HIGH}) {
            check.refused("22: hit(" + being + ", 0)", warren, INDEX, () -> warren.hit(being, 0));
            check.refused("22: hit(0, " + being + ")", warren, INDEX, () -> warren.hit(0, being));
            check.refused("22: hit twice " + being, warren, INDEX, () -> warren.hit(being, being));
        }
    }

    private static Warren fight() {
        Warren warren = hall();
        warren.set(at(6, 4), 2);
        warren.set(at(7, 5), 3);
        warren.come(0, at(3, 4), 30);
        warren.come(1, at(9, 4), 22);
        warren.come(0, at(3, 6), 11);
        warren.come(1, at(9, 6), 15);
        warren.become(1, 9, 3, 3);
        warren.become(2, 8, 0, 4);
        warren.lay(3, 0, 2, 6);
        warren.lay(0, 4, 1, 5);
        return warren;
    }

    static void promise23Ahead() {
        for (int turns = 1; turns <= 40; turns++) {
            Warren warren = fight();
            Warren other = fight();
            long before = warren.digest();
            int got = warren.ahead(turns);
            check.due("23: ahead(" + turns + ") changes nothing", warren.digest(), before);
            other.follow(turns);
            int want = 0;
            for (int being = 0; being < 4; being++) {
                want += (1 - 2 * other.of(being, 0)) * other.of(being, 2);
            }
            check.due("23: ahead(" + turns + ")", got, want);
            check.due("23: ahead(" + turns + ") again", warren.ahead(turns), want);
            warren.follow(turns);
            check.due("23: follow() behind ahead()", warren.digest(), other.digest());
        }
        Warren still = hall();
        check.due("23: nobody", still.ahead(40), 0);
        still.come(1, at(2, 2), 7);
        check.due("23: one side alone", still.ahead(40), -7);
        still.lay(0, 0, 3, 1);
        check.due("23: which does not act", still.ahead(1), -7);
        still.come(0, at(12, 8), 60);
        check.due("23: then it does", still.ahead(1), 60 - 4);
        check.due("23: LIFE is as it was", still.of(0, 2), 7);
    }

    static void promise23AheadRefuses() {
        Warren warren = fight();
        for (int turns : new int[] {LOW, -1, 0, 41, HIGH}) {
            check.refused("23: ahead(" + turns + ")", warren, ARGUMENT, () -> warren.ahead(turns));
        }
    }

    static void promise24Danger() {
        Warren warren = hall();
        check.due("24: nobody", warren.danger(0, 17), 0);
        warren.come(0, at(2, 2), 20);
        warren.come(1, at(9, 2), 20);
        warren.come(1, at(4, 4), 20);
        warren.come(1, at(6, 2), 1);
        check.due("24: to the side 0 at its own", warren.danger(0, at(2, 2)), 3);
        check.due("24: to the side 0 farther west", warren.danger(0, at(1, 2)), 2);
        check.due("24: to the side 1", warren.danger(1, at(9, 2)), 1);
        check.due("24: to the side 1 farther east", warren.danger(1, at(10, 2)), 0);
        check.due("24: at a wall", warren.danger(0, at(5, 0)), 3);
        check.due("24: where one stands", warren.danger(0, at(4, 4)), 3);
        warren.set(at(5, 2), 2);
        check.due("24: past a door", warren.danger(0, at(2, 2)), 1);
        check.due("24: at the door", warren.danger(0, at(5, 2)), 3);
        warren.set(at(5, 2), 0);
        warren.lay(3, 0, 1, 1);
        for (int i = 0; i < 4; i++) {
            warren.act(0);
        }
        check.due("24: one is dead", warren.of(3, 2), 0);
        check.due("24: without the dead one", warren.danger(0, at(2, 2)), 2);
        for (int side : new int[] {LOW, -1, 2, HIGH}) {
            check.refused("24: danger(" + side + ", 17)", warren, ARGUMENT, () -> warren.danger(side, 17));
            check.refused("24: danger(" + side + ", -1)", warren, ARGUMENT, () -> warren.danger(side, -1));
        }
        for (int cell : new int[] {LOW, -1, 160, HIGH}) {
            check.refused("24: danger(1, " + cell + ")", warren, INDEX, () -> warren.danger(1, cell));
        }
    }

    static void promise25MeanLife() {
        Warren warren = hall();
        check.dueMean("25: nobody", warren.meanLife(), 0.0);
        warren.come(0, at(2, 2), 7);
        check.dueMean("25: one", warren.meanLife(), 7.0);
        warren.come(1, at(9, 2), 8);
        check.dueMean("25: two", warren.meanLife(), 7.5);
        warren.come(1, at(9, 8), 5);
        check.dueMean("25: three", warren.meanLife(), 20.0 / 3);
        warren.lay(0, 0, 7, 1);
        warren.act(0);
        check.dueMean("25: without the dead one", warren.meanLife(), 6.5);
        Warren dead = hall();
        dead.come(0, at(2, 2), 7);
        dead.lay(0, 0, 7, 1);
        dead.act(0);
        check.dueMean("25: all are dead", dead.meanLife(), 0.0);
    }

    private static Warren oneThatDies(int calls) {
        Warren warren = new Warren();
        if (calls > 0) {
            warren.dig(1, 1, 14, 8);
        }
        if (calls > 1) {
            warren.come(0, at(2, 2), 3);
        }
        if (calls > 2) {
            warren.lay(0, 0, 3, 1);
        }
        if (calls > 3) {
            warren.lay(0, 3, 4, 6);
        }
        if (calls > 4) {
            warren.act(0);
        }
        return warren;
    }

    static void promise26Digest() {
        for (int calls = 0; calls <= 5; calls++) {
            int made = calls;
            check.due("26: behind " + calls + " calls", oneThatDies(calls).digest(),
                    Checksum.due(() -> oneThatDies(made)));
        }
        Warren warren = oneThatDies(5);
        check.due("26: twice", warren.digest(), warren.digest());
    }

    private static Warren fought(int turns) {
        Warren warren = fight();
        warren.save();
        for (int i = 0; i < turns; i++) {
            warren.follow(1);
        }
        return warren;
    }

    static void promise26DigestAfterEachAction() {
        for (int turns = 0; turns <= 60; turns++) {
            int done = turns;
            check.due("26: behind " + turns, fought(turns).digest(), Checksum.due(() -> fought(done)));
        }
    }

    private static Warren ten(int turns) {
        Warren full = hall();
        for (int being = 0; being < 10; being++) {
            full.come(being % 2, at(1 + being, 1 + being % 8), 5 * being + 1);
            full.lay(being, being % 5, 1 + being % 9, 1 + being);
        }
        if (turns > 0) {
            full.follow(turns);
        }
        return full;
    }

    static void promise26DigestOf10() {
        check.due("26: with 10", ten(0).digest(), Checksum.due(() -> ten(0)));
        check.due("26: with 10, some dead", ten(25).digest(), Checksum.due(() -> ten(25)));
    }
}
