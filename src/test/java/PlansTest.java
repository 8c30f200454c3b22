/** Promises 16 to 19: plans. */
public final class PlansTest {
    private static final Class<?> ARGUMENT = IllegalArgumentException.class;
    private static final Class<?> INDEX = IndexOutOfBoundsException.class;
    private static final int LOW = Integer.MIN_VALUE;
    private static final int HIGH = Integer.MAX_VALUE;
    private static final int[] NO_BEINGS = {LOW, -1, 2, 10, HIGH};

    private static final Check check = new Check("PlansTest");

    public static void main(String[] args) {
        Cases.run(PlansTest.class, check, 16, 19);
    }

    private static int at(int x, int y) {
        return y * 16 + x;
    }

    private static Warren hall() {
        Warren warren = new Warren();
        warren.dig(1, 1, 14, 8);
        return warren;
    }

    private static void dueWorths(String when, Warren warren, int being, int... want) {
        for (int action = 0; action < want.length; action++) {
            check.due("18: " + when + ": worth(" + being + ", " + action + ")", warren.worth(being, action),
                    want[action]);
        }
    }

    static void promise16Target() {
        Warren warren = hall();
        warren.come(0, at(2, 2), 20);
        check.due("16: no foe", warren.target(0), -1);
        warren.come(1, at(10, 2), 20);
        check.due("16: one too far", warren.target(0), -1);
        warren.come(1, at(2, 7), 20);
        check.due("16: one in sight", warren.target(0), 2);
        warren.come(1, at(7, 5), 20);
        check.due("16: as near, a greater number", warren.target(0), 2);
        warren.come(1, at(6, 6), 20);
        check.due("16: a nearer one", warren.target(0), 4);
        warren.come(0, at(3, 3), 20);
        check.due("16: not one of its side", warren.target(0), 4);
        check.due("16: of 4", warren.target(4), 5);
        check.due("16: of 1", warren.target(1), 5);
        warren.set(at(4, 4), 1);
        check.due("16: past a wall", warren.target(0), 2);
        warren.set(at(2, 4), 2);
        check.due("16: past a door", warren.target(0), 3);
        Warren dead = hall();
        dead.come(0, at(2, 2), 1);
        dead.come(1, at(3, 2), 20);
        dead.come(1, at(5, 2), 20);
        dead.lay(0, 0, 1, 1);
        dead.act(0);
        check.due("16: of a dead one", dead.target(0), -1);
        check.due("16: that it was", dead.target(1), -1);
        dead.come(0, at(8, 2), 1);
        check.due("16: another one, with a LIFE of 1", dead.target(1), 3);
        dead.set(at(7, 2), 1);
        check.due("16: which is the prey, too", dead.worth(2, 1), 14);
    }

    static void promise17Way() {
        Warren warren = hall();
        warren.come(0, at(2, 2), 20);
        check.due("17: to its own", warren.way(0, at(2, 2)), 0);
        check.due("17: one to the east", warren.way(0, at(3, 2)), 1);
        check.due("17: far off", warren.way(0, at(14, 8)), 18);
        check.due("17: into a wall", warren.way(0, 0), -1);
        warren.set(at(3, 2), 3);
        check.due("17: into water", warren.way(0, at(3, 2)), 2);
        warren.set(at(3, 2), 2);
        check.due("17: into a door", warren.way(0, at(3, 2)), 2);
        warren.set(at(2, 2), 3);
        check.due("17: out of water", warren.way(0, at(2, 1)), 1);
        check.due("17: in water, to its own", warren.way(0, at(2, 2)), 0);
        Warren rooms = new Warren();
        rooms.dig(1, 1, 2, 2);
        rooms.dig(4, 1, 2, 2);
        rooms.come(0, at(1, 1), 20);
        check.due("17: to another room", rooms.way(0, at(5, 2)), -1);
        rooms.set(at(3, 2), 2);
        check.due("17: through a door", rooms.way(0, at(5, 2)), 6);
        rooms.set(at(3, 1), 0);
        check.due("17: past a door", rooms.way(0, at(5, 2)), 5);
        rooms.set(at(3, 1), 3);
        check.due("17: through water", rooms.way(0, at(5, 1)), 5);
    }

    static void promise17WayPastBeings() {
        Warren lane = new Warren();
        lane.dig(1, 1, 6, 1);
        lane.come(0, at(1, 1), 3);
        lane.come(1, at(4, 1), 20);
        lane.come(0, at(6, 1), 20);
        check.due("17: to another one", lane.way(0, at(4, 1)), 3);
        check.due("17: past another one", lane.way(0, at(5, 1)), -1);
        check.due("17: to one past another one", lane.way(0, at(6, 1)), -1);
        check.due("17: of 1 to 0", lane.way(1, at(1, 1)), 3);
        check.due("17: of 1 to 2", lane.way(1, at(6, 1)), 2);
        check.due("17: of 2 past 1", lane.way(2, at(1, 1)), -1);
        Warren first = new Warren();
        first.dig(1, 1, 5, 1);
        first.come(0, at(3, 1), 3);
        first.come(1, at(1, 1), 3);
        check.due("17: of 1 past 0", first.way(1, at(4, 1)), -1);
        check.due("17: of 1 to 0, the first", first.way(1, at(3, 1)), 2);
        lane.set(at(4, 1), 3);
        check.due("17: to one in the water", lane.way(0, at(4, 1)), 4);
        lane.dig(1, 2, 6, 1);
        check.due("17: around another one", lane.way(0, at(6, 1)), 7);
        lane.lay(0, 0, 3, 1);
        lane.act(0);
        check.due("17: of a dead one", lane.way(0, at(1, 1)), -1);
        check.due("17: of a dead one, far", lane.way(0, at(2, 1)), -1);
        check.due("17: where one died", lane.way(1, at(1, 1)), 3);
    }

    static void promise17WayAroundWater() {
        // Straight through takes 2 for each of 6 CELLS, and 1; around it there are 2 CELLS more.
        Warren warren = hall();
        for (int x = 4; x <= 9; x++) {
            warren.set(at(x, 4), 3);
        }
        warren.come(0, at(3, 4), 20);
        check.due("17: around the water", warren.way(0, at(10, 4)), 9);
        check.due("17: into the middle of it", warren.way(0, at(6, 4)), 6);
        for (int y = 1; y <= 8; y++) {
            warren.set(at(6, y), 1);
        }
        warren.set(at(6, 4), 3);
        check.due("17: straight through, as around saves nothing", warren.way(0, at(10, 4)), 13);
        for (int x = 4; x <= 9; x++) {
            warren.set(at(x, 3), 1);
            warren.set(at(x, 5), 1);
        }
        check.due("17: through the water", warren.way(0, at(10, 4)), 13);
        warren.set(at(6, 4), 2);
        check.due("17: with a door in it", warren.way(0, at(10, 4)), 13);
        warren.set(at(5, 4), 0);
        check.due("17: with floor in it", warren.way(0, at(10, 4)), 12);
        warren.set(at(7, 4), 1);
        check.due("17: with a wall in it", warren.way(0, at(10, 4)), -1);
        Warren lake = hall();
        for (int cell = 0; cell < 160; cell++) {
            if (lake.cell(cell) == 0) {
                lake.set(cell, 3);
            }
        }
        lake.come(1, at(1, 1), 20);
        check.due("17: over a MAP of water", lake.way(0, at(14, 8)), 2 * (13 + 7));
        check.due("17: to its rim", lake.way(0, at(15, 8)), -1);
    }

    static void promise18WorthOfHits() {
        Warren warren = hall();
        warren.come(0, at(5, 5), 20);
        warren.come(1, at(5, 4), 20);
        warren.come(1, at(6, 5), 3);
        warren.come(1, at(5, 6), 2);
        warren.come(0, at(4, 5), 20);
        dueWorths("hits", warren, 0, 1, 29, 59, 59, -1000);
        warren.become(2, 5, 3, 2);
        check.due("18: less than it has", warren.worth(0, 2), 26);
        warren.become(0, 20, 2, 2);
        dueWorths("more than they have", warren, 0, 1, 74, 20 + 51 + 30, 20 + 54 + 30, -1000);
        warren.lay(0, 2, 9, 1);
        warren.lay(1, 3, 4, 1);
        check.due("18: STRONG against SHIELD", warren.worth(0, 1), 20 + 3 * 23 + 30);
        warren.become(0, 0, 0, 2);
        warren.become(1, 0, 20, 2);
        check.due("18: 1 at the least", warren.worth(0, 1), 23);
        check.due("18: of another one", warren.worth(1, 3), 20 + 3 * 1);
    }

    static void promise18WorthOfGoing() {
        Warren warren = hall();
        warren.come(0, at(5, 5), 20);
        warren.come(1, at(8, 5), 20);
        dueWorths("nearer and farther", warren, 0, 1, 6, 14, 6, 6, 14, 0, 0);
        warren.set(at(6, 5), 3);
        // Through the water it is 4 long, from the row above or below as well.
        dueWorths("water ahead", warren, 0, 1, 10, 18, 10, 6);
        warren.set(at(6, 5), 2);
        dueWorths("a door ahead", warren, 0, 1, 10, 6, 10, 6);
        warren.set(at(6, 5), 1);
        dueWorths("a wall ahead", warren, 0, 1, 14, -1000, 14, 6);
        warren.set(at(5, 5), 3);
        dueWorths("in the water", warren, 0, 1, 14, -1000, 14, 6);
        for (int x = 1; x <= 14; x++) {
            warren.set(at(x, 4), 1);
            warren.set(at(x, 6), 1);
        }
        warren.set(at(6, 5), 0);
        dueWorths("in the water of a lane", warren, 0, 1, -1000, 14, -1000, 10 - 4 * 2);
    }

    static void promise18WorthWithoutWays() {
        Warren alone = hall();
        alone.come(0, at(5, 5), 20);
        alone.set(at(5, 4), 2);
        dueWorths("no prey", alone, 0, 1, 6, 0, 0, 0, -1000, 0, 0);
        Warren apart = new Warren();
        apart.dig(1, 1, 3, 3);
        apart.dig(6, 1, 3, 3);
        apart.come(0, at(2, 2), 20);
        apart.come(1, at(7, 2), 20);
        dueWorths("no way to the prey", apart, 0, 1, 0, 0, 0, 0, -1000, 0, 0);
        apart.dig(3, 2, 4, 1);
        apart.come(1, at(5, 2), 20);
        dueWorths("another one is nearer", apart, 0, 1, 6, 14, 6, 6, 14, 0, 0);
        dueWorths("behind another one", apart, 1, 1, 0, 0, 0, 0, 14, 0, 0);
    }

    static void promise18WorthIfAfraid() {
        Warren warren = hall();
        warren.come(0, at(5, 5), 30);
        warren.come(1, at(8, 5), 20);
        warren.lay(0, 0, 9, 2);
        warren.act(0);
        warren.act(0);
        warren.act(0);
        warren.lay(0, 0, 3, 1);
        warren.act(0);
        warren.act(0);
        check.due("18: LIFE", warren.of(0, 2), 9);
        dueWorths("afraid", warren, 0, 1, 14, 6, 14, 14, 14, 24, 21);
        warren.set(at(5, 4), 3);
        dueWorths("afraid, with water", warren, 0, 1, 14, 6, 14, 14);
        warren.set(at(4, 5), 2);
        check.due("18: a door, afraid", warren.worth(0, 4), 6);
        warren.come(1, at(5, 6), 20);
        check.due("18: a hit, afraid", warren.worth(0, 3), 29);
    }

    static void promise18WorthOfMagic() {
        Warren warren = hall();
        warren.come(0, at(5, 5), 20);
        warren.come(1, at(8, 5), 20);
        warren.lay(1, 0, 5, 9);
        check.due("18: CURSE one with POISON", warren.worth(0, 5), 9);
        warren.lay(0, 3, 2, 9);
        check.due("18: GUARD without a cause", warren.worth(0, 6), 0);
        warren.come(1, at(6, 6), 20);
        check.due("18: a foe at the corner is no cause", warren.worth(0, 6), 0);
        check.due("18: CURSE the nearer one", warren.worth(0, 5), 14);
        warren.come(0, at(5, 4), 20);
        check.due("18: one of its side is no cause", warren.worth(0, 6), 0);
        warren.come(1, at(5, 6), 20);
        check.due("18: a foe beside is a cause", warren.worth(0, 6), 18);
        warren.lay(0, 3, 7, 9);
        check.due("18: GUARD with a SHIELD of 9", warren.worth(0, 6), -3);
        check.due("18: HEAL with all LIFE", warren.worth(0, 7), 0);
        warren.lay(0, 1, 4, 1);
        check.due("18: HEAL with REST", warren.worth(0, 7), -8);
        warren.lay(0, 0, 9, 1);
        warren.act(0);
        check.due("18: HEAL with LIFE less", warren.worth(0, 7), 5);
        warren.act(5);
        check.due("18: CURSE of the second one", warren.worth(1, 5), -1000);
        check.due("18: GUARD without MANA", warren.worth(1, 6), -1000);
        check.due("18: HEAL without MANA", warren.worth(1, 7), -1000);
        check.due("18: CURSE with MANA", warren.worth(0, 5), 14);
        Warren four = hall();
        int[] cells = {at(5, 4), at(6, 5), at(5, 6), at(4, 5)};
        four.come(0, at(5, 5), 20);
        for (int i = 0; i < 4; i++) {
            four.save();
            four.come(1, cells[i], 20);
            check.due("18: GUARD, a foe in the direction " + i, four.worth(0, 6), 24);
            four.load(i);
        }
    }

    static void promise18WorthOfOneThatIsDead() {
        Warren warren = hall();
        warren.come(0, at(5, 5), 3);
        warren.come(1, at(6, 5), 20);
        warren.lay(0, 0, 3, 1);
        warren.act(0);
        dueWorths("dead", warren, 0, -1000, -1000, -1000, -1000, -1000, -1000, -1000, -1000);
        dueWorths("where it was", warren, 1, 1, 0, 0, 0, 0, -1000, 0, 0);
    }

    static void promise18WorthToThePrey() {
        // The one with the smallest number is the prey of whoever sees none.
        Warren warren = hall();
        warren.dig(1, 1, 14, 8);
        for (int y = 1; y <= 8; y++) {
            warren.set(at(6, y), 1);
        }
        warren.set(at(6, 8), 0);
        warren.come(0, at(5, 1), 20);
        warren.come(1, at(14, 1), 20);
        warren.come(1, at(7, 1), 20);
        check.due("18: no target", warren.target(0), -1);
        // Past both of them the way to 1 is 7 + 9 + 7 long.
        check.due("18: way to 1", warren.way(0, at(14, 1)), 23);
        dueWorths("to the smallest number", warren, 0, 1, -1000, -1000, 14, 6, -1000, 0, 0);
        check.due("18: 1 sees none", warren.target(1), -1);
        dueWorths("of 1 to 0", warren, 1, 1, -1000, -1000, 14, 14, -1000, 0, 0);
        warren.set(at(6, 8), 1);
        warren.set(at(6, 1), 2);
        dueWorths("with a door to open", warren, 0, 1, -1000, 6, 0, 0, -1000, 0, 0);
        warren.dig(6, 1, 1, 2);
        // It sees 2 now, which is the nearest one.
        dueWorths("to the target", warren, 0, 1, -1000, 14, 10 + 4 * (2 - 3), 6, 14, 0, 0);
    }

    static void promise19Plan() {
        Warren warren = hall();
        warren.come(0, at(5, 5), 20);
        check.due("19: alone", warren.plan(0), 0);
        warren.come(1, at(8, 5), 20);
        check.due("19: 14 by GO, and by CURSE", warren.plan(0), 2);
        check.due("19: as if it was its TURN", warren.plan(1), 4);
        warren.come(1, at(6, 5), 20);
        check.due("19: a HIT", warren.plan(0), 2);
        warren.come(1, at(5, 4), 20);
        check.due("19: two HITS, the smaller number", warren.plan(0), 1);
        warren.become(3, 5, 4, 2);
        check.due("19: the better HIT", warren.plan(0), 2);
        warren.become(2, 5, 5, 2);
        warren.become(0, 5, 2, 1);
        check.due("19: the SHIELD", warren.plan(0), 6);
        warren.lay(0, 3, 1, 5);
        check.due("19: not with a SHIELD", warren.plan(0), 1);
        Warren corner = new Warren();
        corner.dig(1, 1, 2, 1);
        corner.dig(1, 5, 2, 1);
        corner.come(0, at(1, 1), 20);
        corner.come(1, at(1, 5), 20);
        check.due("19: no way", corner.plan(0), 0);
        corner.set(at(1, 2), 2);
        check.due("19: a door", corner.plan(0), 3);
        corner.lay(0, 0, 8, 1);
        corner.act(0);
        check.due("19: heals itself", corner.plan(0), 7);
        Warren dead = hall();
        dead.come(0, at(5, 5), 1);
        dead.come(1, at(7, 5), 1);
        dead.lay(0, 0, 1, 1);
        dead.act(0);
        check.due("19: of a dead one", dead.plan(0), -1);
        check.due("19: of one that has no foe more", dead.plan(1), 0);
    }

    private static Warren two() {
        Warren warren = hall();
        warren.come(0, at(2, 2), 20);
        warren.come(1, at(4, 2), 20);
        return warren;
    }

    static void promise16Refuses() {
        Warren warren = two();
        for (int being : NO_BEINGS) {
            check.refused("target(" + being + ")", warren, INDEX, () -> warren.target(being));
        }
    }

    static void promise17Refuses() {
        Warren warren = two();
        for (int being : NO_BEINGS) {
            check.refused("way(" + being + ", 17)", warren, INDEX, () -> warren.way(being, 17));
            check.refused("way(" + being + ", 160)", warren, INDEX, () -> warren.way(being, 160));
        }
        for (int cell : new int[] {LOW, -1, 160, HIGH}) {
            check.refused("way(0, " + cell + ")", warren, INDEX, () -> warren.way(0, cell));
        }
    }

    static void promise18Refuses() {
        Warren warren = two();
        for (int being : NO_BEINGS) {
            check.refused("worth(" + being + ", 0)", warren, INDEX, () -> warren.worth(being, 0));
            check.refused("worth(" + being + ", 8)", warren, INDEX, () -> warren.worth(being, 8));
        }
        for (int action : new int[] {LOW, -1, 8, HIGH}) {
            check.refused("worth(0, " + action + ")", warren, ARGUMENT, () -> warren.worth(0, action));
        }
    }

    static void promise19Refuses() {
        Warren warren = two();
        for (int being : NO_BEINGS) {
            check.refused("plan(" + being + ")", warren, INDEX, () -> warren.plan(being));
        }
    }
}
