/** Promises 16 to 19, plans: each sentence that names an edge, in a case of its own. */
public final class PlansEdgesTest {
    private static final Class<?> ARGUMENT = IllegalArgumentException.class;
    private static final Class<?> INDEX = IndexOutOfBoundsException.class;
    private static final int HIGH = Integer.MAX_VALUE;
    private static final int LOW = Integer.MIN_VALUE;
    private static final int[] DIRECTIONS = {-16, 1, 16, -1};
    private static final int POISON = 0;
    private static final int REST = 1;
    private static final int STRONG = 2;
    private static final int SHIELD = 3;

    private static final Check check = new Check("PlansEdgesTest");

    public static void main(String[] args) {
        Cases.run(PlansEdgesTest.class, check, 16, 19);
    }

    private static int at(int x, int y) {
        return Given.at(x, y);
    }

    private static Warren hall() {
        return Given.hall();
    }

    private static Warren alone() {
        Warren warren = hall();
        warren.come(0, at(5, 5), 20);
        return warren;
    }

    /** A lane of one row, from the column 1 on. */
    private static Warren lane(int length) {
        Warren warren = new Warren();
        warren.dig(1, 4, length, 1);
        return warren;
    }

    private static void kill(Warren warren, int being) {
        for (int i = 0; i < 60 && warren.of(being, 2) > 0; i++) {
            warren.lay(being, POISON, 9, 1);
            for (int k = 0; k < 10 && warren.many(3) != being; k++) {
                warren.act(0);
            }
            warren.act(0);
        }
        check.due(being + " is dead", warren.of(being, 2), 0);
    }

    /** One of the side 0, alone, that came with a LIFE of 30 and has 9 left. */
    private static Warren afraid() {
        Warren warren = hall();
        warren.come(0, at(5, 5), 30);
        for (int poison : new int[] {9, 9, 3}) {
            warren.lay(0, POISON, poison, 1);
            warren.act(0);
        }
        check.due("AFRAID", warren.of(0, 9), 1);
        return warren;
    }

    private static void dueWorths(String when, Warren warren, int being, int... want) {
        for (int action = 0; action < want.length; action++) {
            check.due(when + ": worth(" + being + ", " + action + ")", warren.worth(being, action), want[action]);
        }
    }

    // ---- 16: target

    static void promise16BeingIsOneThatCame() {
        for (Given given : Given.values()) {
            for (int being : Given.outside(0, given.beings - 1)) {
                check.refused("target(" + being + ")", given, INDEX, w -> w.target(being));
            }
        }
        check.due("the first one", Given.PAIR.get().target(0), 1);
        check.due("the last one", Given.PAIR.get().target(1), 0);
    }

    static void promise16OneThatIsDeadHasNone() {
        check.due("the other one lives", Given.SIDE_0_DEAD.get().target(0), -1);
        check.due("all are dead", Given.ALL_DEAD.get().target(0), -1);
        check.due("all are dead", Given.ALL_DEAD.get().target(1), -1);
    }

    static void promise16WithoutOneOfTheOtherSide() {
        check.due("alone", alone().target(0), -1);
        check.due("two of one side", Given.ONE_SIDE.get().target(0), -1);
        check.due("two of one side", Given.ONE_SIDE.get().target(1), -1);
    }

    static void promise16NotOneThatIsDead() {
        check.due("the other side is dead", Given.SIDE_0_DEAD.get().target(1), -1);
        Warren warren = alone();
        warren.come(1, at(6, 5), 9);
        warren.come(1, at(9, 5), 9);
        check.due("the nearer one", warren.target(0), 1);
        kill(warren, 1);
        check.due("the one that is not dead", warren.target(0), 2);
    }

    static void promise16SevenOffAndNoMore() {
        int[][] cells = {{12, 1, 7}, {5, 8, 7}, {12, 8, 7}, {6, 8, 7}, {13, 1, 8}, {13, 8, 8}, {14, 2, 9}};
        for (int[] cell : cells) {
            Warren warren = hall();
            warren.come(0, at(5, 1), 9);
            warren.come(1, at(cell[0], cell[1]), 9);
            check.due(cell[2] + " off", warren.target(0), cell[2] == 7 ? 1 : -1);
            check.due("from there, " + cell[2] + " off", warren.target(1), cell[2] == 7 ? 0 : -1);
        }
    }

    static void promise16PastNoWallAndNoDoor() {
        for (int kind = 0; kind <= 3; kind++) {
            Warren warren = alone();
            warren.come(1, at(8, 5), 9);
            warren.set(at(6, 5), kind);
            check.due("past a " + kind, warren.target(0), kind == 1 || kind == 2 ? -1 : 1);
        }
    }

    static void promise16PastOtherOnes() {
        Warren warren = alone();
        warren.come(0, at(6, 5), 9);
        warren.come(1, at(7, 5), 9);
        check.due("past one of its own side", warren.target(0), 2);
    }

    static void promise16TheNearestByTheGreaterOfColumnsAndRows() {
        Warren warren = alone();
        warren.come(1, at(9, 5), 9);
        check.due("4 columns off", warren.target(0), 1);
        warren.come(1, at(8, 8), 9);
        check.due("3 columns and 3 rows off", warren.target(0), 2);
        warren.come(1, at(5, 3), 9);
        check.due("2 rows off", warren.target(0), 3);
        warren.come(1, at(4, 4), 9);
        check.due("at the corner", warren.target(0), 4);
    }

    static void promise16OfSeveralTheSmallestNumber() {
        Warren warren = hall();
        warren.come(1, at(7, 7), 9);
        warren.come(1, at(5, 7), 9);
        warren.come(0, at(5, 5), 20);
        warren.come(1, at(3, 5), 9);
        warren.come(1, at(5, 3), 9);
        check.due("all are 2 off", warren.target(2), 0);
        int[] due = {1, 3, 4, -1};
        int[] dead = {0, 1, 3, 4};
        for (int i = 0; i < due.length; i++) {
            kill(warren, dead[i]);
            check.due("without " + dead[i], warren.target(2), due[i]);
        }
    }

    static void promise16Of10() {
        Warren warren = Given.FULL.get();
        for (int being = 0; being < 10; being++) {
            int from = warren.of(being, 1);
            int due = -1;
            int least = 8;
            for (int other = 0; other < 10; other++) {
                int there = warren.of(other, 1);
                int n = Math.max(Math.abs(there % 16 - from % 16), Math.abs(there / 16 - from / 16));
                if (other % 2 != being % 2 && n < least && warren.sees(from, there)) {
                    due = other;
                    least = n;
                }
            }
            check.due("target(" + being + ")", warren.target(being), due);
        }
    }

    static void promise16AskingChangesNothing() {
        for (Given given : Given.values()) {
            check.leaves("target()", given, PlansEdgesTest::askTarget);
        }
    }

    private static void askTarget(Warren warren) {
        for (int being = 0; being < warren.many(0); being++) {
            warren.target(being);
        }
    }

    // ---- 17: way

    static void promise17BeingIsOneThatCame() {
        for (Given given : Given.values()) {
            for (int being : Given.outside(0, given.beings - 1)) {
                check.refused("way(" + being + ", 17)", given, INDEX, w -> w.way(being, 17));
                check.refused("way(" + being + ", -1)", given, INDEX, w -> w.way(being, -1));
            }
        }
    }

    static void promise17CellIsFrom0To159() {
        check.due("way(0, 0)", alone().way(0, 0), -1);
        check.due("way(0, 159)", alone().way(0, 159), -1);
        for (Given given : Given.values()) {
            for (int cell : Given.outside(0, 159)) {
                check.refused("way(0, " + cell + ")", given, INDEX, w -> w.way(0, cell));
            }
        }
    }

    static void promise17ToItsOwnIs0() {
        check.due("on FLOOR", alone().way(0, at(5, 5)), 0);
        Warren water = alone();
        water.set(at(5, 5), 3);
        check.due("in WATER", water.way(0, at(5, 5)), 0);
        Warren shut = new Warren();
        shut.dig(5, 5, 1, 1);
        shut.come(0, at(5, 5), 9);
        check.due("shut in", shut.way(0, at(5, 5)), 0);
        Warren full = Given.FULL.get();
        for (int being = 0; being < 10; being++) {
            check.due("of " + being, full.way(being, full.of(being, 1)), 0);
        }
    }

    static void promise17OneThatIsDeadHasNone() {
        Warren warren = Given.SIDE_0_DEAD.get();
        for (int cell = 0; cell < 160; cell++) {
            check.due("way(0, " + cell + ")", warren.way(0, cell), -1);
        }
        check.due("of the one that is not", warren.way(1, at(4, 4)), 4);
    }

    static void promise17FloorCounts1WaterAndADoor2() {
        int[] due = {1, -1, 2, 2};
        for (int kind = 0; kind <= 3; kind++) {
            Warren warren = lane(3);
            warren.come(0, at(1, 4), 9);
            warren.set(at(2, 4), kind);
            check.due("to a " + kind, warren.way(0, at(2, 4)), due[kind]);
            check.due("over a " + kind, warren.way(0, at(3, 4)), kind == 1 ? -1 : due[kind] + 1);
        }
    }

    static void promise17TheFirstDoesNotCount() {
        Warren warren = lane(3);
        warren.come(0, at(1, 4), 9);
        warren.set(at(1, 4), 3);
        check.due("out of WATER", warren.way(0, at(3, 4)), 2);
    }

    static void promise17TheLastCounts() {
        for (int kind = 2; kind <= 3; kind++) {
            Warren warren = lane(3);
            warren.come(0, at(1, 4), 9);
            warren.set(at(3, 4), kind);
            check.due("into a " + kind, warren.way(0, at(3, 4)), 3);
        }
        Warren taken = lane(3);
        taken.come(0, at(1, 4), 9);
        taken.come(1, at(3, 4), 9);
        taken.set(at(3, 4), 3);
        check.due("into WATER with another one", taken.way(0, at(3, 4)), 3);
    }

    static void promise17OverNoWallAndToNone() {
        Warren warren = alone();
        for (int cell = 0; cell < 160; cell++) {
            int distance = Math.abs(cell % 16 - 5) + Math.abs(cell / 16 - 5);
            boolean isRim = warren.cell(cell) == 1;
            check.due("way(0, " + cell + ")", warren.way(0, cell), isRim ? -1 : distance);
        }
        for (int direction : DIRECTIONS) {
            warren.set(at(5, 5) + direction, 1);
        }
        check.due("shut in", warren.way(0, at(7, 5)), -1);
        warren.set(at(6, 5), 2);
        check.due("with a door", warren.way(0, at(7, 5)), 3);
    }

    static void promise17NotThroughTheCorner() {
        Warren warren = new Warren();
        warren.dig(5, 5, 1, 1);
        warren.dig(6, 6, 1, 1);
        warren.come(0, at(5, 5), 9);
        check.due("at the corner", warren.way(0, at(6, 6)), -1);
        warren.dig(6, 5, 1, 1);
        check.due("around it", warren.way(0, at(6, 6)), 2);
    }

    static void promise17NotFromTheEndOfARowIntoTheNextOne() {
        Warren warren = new Warren();
        warren.dig(14, 3, 1, 1);
        warren.dig(1, 4, 1, 1);
        warren.dig(1, 5, 1, 1);
        warren.come(0, at(14, 3), 9);
        check.due("to the next row", warren.way(0, at(1, 4)), -1);
        check.due("to the one below", warren.way(0, at(1, 5)), -1);
    }

    static void promise17OverNoOtherOne() {
        for (int side = 0; side <= 1; side++) {
            Warren warren = lane(5);
            warren.come(0, at(1, 4), 9);
            warren.come(side, at(3, 4), 9);
            check.due("ahead of one of the side " + side, warren.way(0, at(2, 4)), 1);
            check.due("to one of the side " + side, warren.way(0, at(3, 4)), 2);
            check.due("past one of the side " + side, warren.way(0, at(4, 4)), -1);
            check.due("it itself, to the west", warren.way(1, at(1, 4)), 2);
            check.due("it itself, to the east", warren.way(1, at(5, 4)), 2);
            warren.dig(1, 5, 5, 1);
            check.due("around one of the side " + side, warren.way(0, at(4, 4)), 5);
        }
    }

    static void promise17OverWhereOneDied() {
        Warren warren = lane(5);
        warren.come(0, at(1, 4), 9);
        warren.come(1, at(3, 4), 9);
        check.due("past it", warren.way(0, at(5, 4)), -1);
        kill(warren, 1);
        check.due("past where it died", warren.way(0, at(5, 4)), 4);
    }

    static void promise17TheLeastNotTheShortest() {
        for (int water = 1; water <= 6; water++) {
            Warren warren = new Warren();
            warren.dig(1, 4, 8, 2);
            for (int x = 2; x < 2 + water; x++) {
                warren.set(at(x, 4), 3);
            }
            warren.come(0, at(1, 4), 9);
            check.due("with " + water + " of WATER", warren.way(0, at(8, 4)), Math.min(7 + water, 9));
        }
    }

    static void promise17TheLongestOfAll() {
        Warren warren = new Warren();
        for (int y = 1; y <= 7; y += 2) {
            warren.dig(1, y, 14, 1);
        }
        warren.dig(14, 2, 1, 1);
        warren.dig(1, 4, 1, 1);
        warren.dig(14, 6, 1, 1);
        warren.dig(1, 8, 1, 1);
        warren.come(0, 17, 9);
        check.due("over FLOOR", warren.way(0, at(1, 8)), 4 * 13 + 7);
        for (int cell = 0; cell < 160; cell++) {
            if (warren.cell(cell) == 0) {
                warren.set(cell, 3);
            }
        }
        check.due("over WATER", warren.way(0, at(1, 8)), 2 * (4 * 13 + 7));
        for (int cell = 18; cell < 160; cell++) {
            if (warren.cell(cell) == 3) {
                warren.set(cell, 2);
            }
        }
        check.due("through doors", warren.way(0, at(1, 8)), 2 * (4 * 13 + 7));
        warren.set(at(7, 5), 1);
        check.due("with a wall in it", warren.way(0, at(1, 8)), -1);
    }

    static void promise17AskingChangesNothing() {
        for (Given given : Given.values()) {
            check.leaves("way()", given, PlansEdgesTest::askWay);
        }
    }

    private static void askWay(Warren warren) {
        for (int being = 0; being < warren.many(0); being++) {
            for (int cell = 17; cell < 142; cell += 15) {
                warren.way(being, cell);
            }
        }
    }

    // ---- 18: worth

    static void promise18BeingIsOneThatCame() {
        for (Given given : Given.values()) {
            for (int being : Given.outside(0, given.beings - 1)) {
                check.refused("worth(" + being + ", 0)", given, INDEX, w -> w.worth(being, 0));
            }
        }
    }

    static void promise18ActionIsFrom0To7() {
        dueWorths("all of them", Given.PAIR.get(), 1, 1, 6, 6, 6, 38, 14, 24, 3);
        for (int action : Given.outside(0, 7)) {
            check.refused("worth(0, " + action + ")", Given.FULL, ARGUMENT, w -> w.worth(0, action));
            check.refused("worth of a dead one", Given.ALL_DEAD, ARGUMENT, w -> w.worth(1, action));
        }
    }

    static void promise18NoSuchBeingComesFirst() {
        for (int being : new int[] {LOW, -1, 2, 10, HIGH}) {
            for (int action : new int[] {LOW, -1, 8, HIGH}) {
                check.refused("worth(" + being + ", " + action + ")", Given.PAIR, INDEX, w -> w.worth(being, action));
            }
        }
    }

    static void promise18OfOneThatIsDeadItIsMinus1000() {
        for (int action = 0; action < 8; action++) {
            check.due("the other one lives", Given.SIDE_0_DEAD.get().worth(0, action), -1000);
            check.due("all are dead", Given.ALL_DEAD.get().worth(1, action), -1000);
        }
    }

    static void promise18AsIfItWasItsTurn() {
        Warren warren = Given.PAIR.get();
        check.due("whose TURN it is", warren.many(3), 1);
        check.due("a HIT of 0", warren.worth(0, 2), 29);
        check.due("a HIT of 1, which is STRONG", warren.worth(1, 4), 38);
    }

    static void promise18WaitIs1() {
        for (Given given : new Given[] {Given.ONE_SIDE, Given.PAIR, Given.FULL}) {
            Warren warren = given.get();
            for (int being = 0; being < given.beings; being++) {
                check.due(given + ": worth(" + being + ", 0)", warren.worth(being, 0), 1);
            }
        }
    }

    /** What act() refuses for the one whose TURN it is, and nothing else, is worth -1000. */
    static void promise18WhatIsNotPossibleIsMinus1000() {
        for (Given given : new Given[] {Given.ONE_SIDE, Given.PAIR, Given.SIDE_0_DEAD, Given.FULL}) {
            for (int action = 0; action < 8; action++) {
                Warren warren = given.get();
                int worth = warren.worth(warren.many(3), action);
                boolean isPossible = true;
                try {
                    warren.act(action);
                } catch (IllegalStateException e) {
                    isPossible = false;
                }
                check.due(given + ": worth of " + action, worth == -1000, !isPossible);
            }
        }
        Warren warren = hall();
        warren.come(1, 17, 9);
        warren.come(1, 18, 9);
        dueWorths("a wall, one of its side, no TARGET", warren, 0, 1, -1000, -1000, 0, -1000, -1000, 0, 0);
    }

    static void promise18AHitIs20AndItThrice() {
        int[][] due = {
            // FORCE, STRONG, GUARD, SHIELD, the WORTH
            {0, 0, 20, 9, 23}, {5, 0, 5, 0, 23}, {6, 0, 5, 0, 23}, {7, 0, 5, 0, 26}, {20, 9, 0, 0, 107},
            {9, 1, 2, 3, 35},
        };
        for (int[] a : due) {
            for (int direction = 0; direction < 4; direction++) {
                Warren warren = alone();
                warren.come(1, at(5, 5) + DIRECTIONS[direction], 60);
                warren.become(0, a[0], 0, 2);
                warren.become(1, 0, a[2], 2);
                if (a[1] > 0) {
                    warren.lay(0, STRONG, a[1], 1);
                }
                if (a[3] > 0) {
                    warren.lay(1, SHIELD, a[3], 1);
                }
                check.due("GO " + direction, warren.worth(0, 1 + direction), a[4]);
            }
        }
    }

    static void promise18AHitThatKillsIs30More() {
        for (int life = 1; life <= 6; life++) {
            Warren warren = alone();
            warren.come(1, at(6, 5), life);
            check.due("a HIT of 3, LIFE " + life, warren.worth(0, 2), life <= 3 ? 59 : 29);
        }
        Warren worn = alone();
        worn.come(1, at(6, 5), 20);
        worn.lay(1, POISON, 9, 2);
        check.due("a HIT of 3, LIFE 20 of 20", worn.worth(0, 2), 29);
        for (int i = 0; i < 4; i++) {
            worn.act(0);
        }
        check.due("LIFE that is left", worn.of(1, 2), 2);
        check.due("a HIT of 3, LIFE 2 of 20", worn.worth(0, 2), 59);
        Warren most = alone();
        most.come(1, at(6, 5), 29);
        most.become(0, 20, 0, 2);
        most.become(1, 0, 0, 2);
        most.lay(0, STRONG, 9, 1);
        check.due("the greatest of all", most.worth(0, 2), 20 + 3 * 29 + 30);
        Warren least = alone();
        least.come(1, at(6, 5), 1);
        least.become(0, 0, 0, 2);
        check.due("a HIT of 1, LIFE 1", least.worth(0, 2), 53);
    }

    static void promise18ADoorIs6() {
        Warren warren = alone();
        warren.set(at(6, 5), 2);
        check.due("without PREY", warren.worth(0, 2), 6);
        warren.come(1, at(8, 5), 9);
        check.due("towards the PREY", warren.worth(0, 2), 6);
        warren.set(at(4, 5), 2);
        check.due("away from the PREY", warren.worth(0, 4), 6);
        Warren afraid = afraid();
        afraid.set(at(6, 5), 2);
        afraid.come(1, at(8, 5), 9);
        check.due("AFRAID", afraid.worth(0, 2), 6);
    }

    static void promise18AGoIs10And4TimesWhatIsSaved() {
        Warren warren = lane(6);
        warren.come(0, at(2, 4), 9);
        warren.come(1, at(5, 4), 9);
        check.due("FLOOR towards", warren.worth(0, 2), 10 + 4);
        check.due("FLOOR away, back over its own", warren.worth(0, 4), 10 - 4);
        warren.set(at(3, 4), 3);
        check.due("WATER towards", warren.worth(0, 2), 10 + 8);
        warren.set(at(1, 4), 3);
        check.due("WATER away", warren.worth(0, 4), 10 - 4);
        warren.set(at(2, 4), 3);
        check.due("out of WATER, towards", warren.worth(0, 2), 10 + 8);
        warren.set(at(1, 4), 0);
        check.due("out of WATER, away", warren.worth(0, 4), 10 - 8);
        warren.set(at(5, 4), 3);
        check.due("the PREY in WATER", warren.worth(0, 2), 10 + 8);
    }

    static void promise18AGoIsTheOtherWayRoundIfItIsAfraid() {
        Warren warren = afraid();
        for (int y = 4; y <= 6; y += 2) {
            for (int x = 1; x <= 14; x++) {
                warren.set(at(x, y), 1);
            }
        }
        warren.come(1, at(8, 5), 9);
        check.due("FLOOR towards", warren.worth(0, 2), 10 - 4);
        check.due("FLOOR away", warren.worth(0, 4), 10 + 4);
        warren.set(at(6, 5), 3);
        check.due("WATER towards", warren.worth(0, 2), 10 - 8);
        warren.set(at(5, 5), 3);
        check.due("out of WATER, away", warren.worth(0, 4), 10 + 8);
    }

    static void promise18AGoThatSavesNothingIs10() {
        Warren warren = hall();
        warren.come(0, at(5, 5), 9);
        warren.come(1, at(8, 5), 9);
        warren.set(at(6, 5), 3);
        check.due("4 from here, 4 from the row above", warren.worth(0, 1), 10);
        check.due("4 from here, 4 from the row below", warren.worth(0, 3), 10);
    }

    static void promise18AGoWithoutPreyIs0() {
        dueWorths("alone", alone(), 0, 1, 0, 0, 0, 0, -1000, 0, 0);
        dueWorths("its own side alone", Given.ONE_SIDE.get(), 0, 1, 0, 0, 0, 0, -1000, 0, 0);
        dueWorths("the dead alone", Given.SIDE_0_DEAD.get(), 1, 1, 0, 0, 0, 0, -1000, 0, 0);
    }

    static void promise18AGoWithoutAWayIs0() {
        Warren warren = hall();
        warren.come(0, at(5, 5), 9);
        warren.come(1, at(9, 5), 9);
        for (int direction : DIRECTIONS) {
            warren.set(at(9, 5) + direction, 1);
        }
        check.due("walls around the PREY", warren.way(0, at(9, 5)), -1);
        dueWorths("walls around the PREY", warren, 0, 1, 0, 0, 0, 0, -1000, 0, 0);
        Warren crowd = lane(6);
        crowd.come(0, at(2, 4), 9);
        crowd.come(0, at(4, 4), 9);
        crowd.come(1, at(6, 4), 9);
        check.due("its own side before the PREY", crowd.target(0), 2);
        dueWorths("its own side before the PREY", crowd, 0, 1, -1000, 0, -1000, 0, 14, 0, 0);
    }

    static void promise18ThePreyIsTheTarget() {
        Warren warren = lane(9);
        warren.come(1, at(1, 4), 9);
        warren.come(0, at(5, 4), 9);
        warren.come(1, at(8, 4), 9);
        check.due("the nearer one", warren.target(1), 2);
        check.due("towards that", warren.worth(1, 2), 14);
        check.due("towards the smaller number", warren.worth(1, 4), 6);
    }

    static void promise18ThePreyWithoutATargetHasTheSmallestNumber() {
        Warren warren = lane(14);
        warren.come(1, at(1, 4), 9);
        warren.come(1, at(14, 4), 9);
        warren.come(0, at(5, 4), 9);
        warren.set(at(3, 4), 2);
        check.due("no TARGET", warren.target(2), -1);
        check.due("towards 0", warren.worth(2, 4), 14);
        check.due("towards 1", warren.worth(2, 2), 6);
        kill(warren, 0);
        check.due("towards where 0 was", warren.worth(2, 4), 6);
        check.due("towards 1 then", warren.worth(2, 2), 14);
        kill(warren, 1);
        check.due("towards none", warren.worth(2, 2), 0);
    }

    static void promise18ACurseIs14LessThePoisonOfItsTarget() {
        for (int stack = 0; stack <= 9; stack++) {
            Warren warren = alone();
            warren.come(1, at(8, 5), 9);
            if (stack > 0) {
                warren.lay(1, POISON, stack, 20);
            }
            warren.lay(0, POISON, 9, 1);
            check.due("POISON " + stack, warren.worth(0, 5), 14 - stack);
        }
    }

    static void promise18MagicNeeds3Mana() {
        for (int mana = 0; mana <= 9; mana++) {
            Warren warren = alone();
            warren.act(6);
            for (int i = 0; i < mana; i++) {
                warren.act(0);
            }
            warren.come(1, at(6, 5), 60);
            int shield = warren.effect(0, SHIELD, false);
            check.due("CURSE with " + mana, warren.worth(0, 5), mana >= 3 ? 14 : -1000);
            check.due("GUARD ITSELF with " + mana, warren.worth(0, 6), mana >= 3 ? 24 - 3 * shield : -1000);
            check.due("HEAL ITSELF with " + mana, warren.worth(0, 7), mana >= 3 ? 0 : -1000);
        }
    }

    static void promise18GuardItselfIs24LessThriceTheShield() {
        for (int stack = 0; stack <= 9; stack++) {
            Warren beside = alone();
            beside.come(1, at(6, 5), 9);
            Warren afraid = afraid();
            if (stack > 0) {
                beside.lay(0, SHIELD, stack, 20);
                afraid.lay(0, SHIELD, stack, 20);
            }
            check.due("one beside it, SHIELD " + stack, beside.worth(0, 6), 24 - 3 * stack);
            check.due("AFRAID, SHIELD " + stack, afraid.worth(0, 6), 24 - 3 * stack);
        }
    }

    static void promise18GuardItselfWithoutACauseIs0() {
        Warren warren = alone();
        warren.lay(0, SHIELD, 5, 20);
        check.due("alone", warren.worth(0, 6), 0);
        warren.come(0, at(6, 5), 9);
        check.due("one of its side beside it", warren.worth(0, 6), 0);
        warren.come(1, at(4, 4), 9);
        check.due("one of the other side at the corner", warren.worth(0, 6), 0);
        warren.come(1, at(5, 7), 9);
        check.due("one of the other side 2 off", warren.worth(0, 6), 0);
        warren.come(1, at(5, 6), 1);
        check.due("one of the other side beside it", warren.worth(0, 6), 9);
        kill(warren, 4);
        check.due("it is dead", warren.worth(0, 6), 0);
    }

    static void promise18GuardItselfWithOneInEachDirection() {
        for (int direction = 0; direction < 4; direction++) {
            Warren warren = alone();
            warren.come(1, at(5, 5) + DIRECTIONS[direction], 9);
            check.due("of 0, direction " + direction, warren.worth(0, 6), 24);
            check.due("of 1, direction " + direction, warren.worth(1, 6), 24);
        }
    }

    static void promise18GuardItselfAtAThirdIsNotAfraid() {
        Warren warren = afraid();
        warren.lay(0, REST, 1, 1);
        warren.act(0);
        check.due("LIFE", warren.of(0, 2), 10);
        check.due("10 of 30", warren.worth(0, 6), 0);
    }

    static void promise18HealItselfIsWhatIsLostLessTwiceTheRest() {
        for (int rest = 0; rest <= 9; rest++) {
            for (int lost = 0; lost <= 9; lost++) {
                Warren warren = alone();
                if (lost > 0) {
                    warren.lay(0, POISON, lost, 1);
                    warren.act(0);
                }
                if (rest > 0) {
                    warren.lay(0, REST, rest, 20);
                }
                check.due(lost + " lost, REST " + rest, warren.worth(0, 7), lost - 2 * rest);
            }
        }
    }

    static void promise18HealItselfOfTheMostLife() {
        Warren warren = hall();
        warren.come(0, at(5, 5), 60);
        for (int poison : new int[] {9, 9, 9, 9, 9, 9, 5}) {
            warren.lay(0, POISON, poison, 1);
            warren.act(0);
        }
        check.due("LIFE", warren.of(0, 2), 1);
        check.due("1 of 60", warren.worth(0, 7), 59);
    }

    static void promise18AskingChangesNothing() {
        for (Given given : Given.values()) {
            check.leaves("worth()", given, PlansEdgesTest::askWorth);
        }
    }

    private static void askWorth(Warren warren) {
        for (int being = 0; being < warren.many(0); being++) {
            for (int action = 0; action < 8; action++) {
                warren.worth(being, action);
            }
        }
    }

    // ---- 19: plan

    static void promise19BeingIsOneThatCame() {
        for (Given given : Given.values()) {
            for (int being : Given.outside(0, given.beings - 1)) {
                check.refused("plan(" + being + ")", given, INDEX, w -> w.plan(being));
            }
        }
    }

    static void promise19OfOneThatIsDeadItIsMinus1() {
        check.due("the other one lives", Given.SIDE_0_DEAD.get().plan(0), -1);
        check.due("all are dead", Given.ALL_DEAD.get().plan(0), -1);
        check.due("all are dead", Given.ALL_DEAD.get().plan(1), -1);
    }

    static void promise19TheGreatestWorthOfSeveralTheSmallestNumber() {
        for (Given given : new Given[] {Given.ONE_SIDE, Given.PAIR, Given.SIDE_0_DEAD, Given.FULL}) {
            for (int turns = 1; turns <= 25; turns++) {
                Warren warren = given.get();
                warren.follow(turns);
                for (int being = 0; being < given.beings; being++) {
                    if (warren.of(being, 2) > 0) {
                        check.due(given + ": plan(" + being + ")", warren.plan(being), bestOf(warren, being));
                    }
                }
            }
        }
    }

    private static int bestOf(Warren warren, int being) {
        int best = 0;
        int most = warren.worth(being, 0);
        for (int action = 1; action < 8; action++) {
            int worth = warren.worth(being, action);
            if (worth > most) {
                best = action;
                most = worth;
            }
        }
        return best;
    }

    static void promise19WithNothingBetterItWaits() {
        check.due("alone", alone().plan(0), 0);
        check.due("the dead alone", Given.SIDE_0_DEAD.get().plan(1), 0);
        Warren shut = new Warren();
        shut.dig(5, 5, 1, 1);
        shut.come(1, at(5, 5), 9);
        check.due("shut in", shut.plan(0), 0);
    }

    static void promise19OfEqualOnesTheSmallestNumber() {
        Warren corner = alone();
        corner.come(1, at(7, 3), 60);
        check.due("north and east, both 14, and CURSE 14", corner.plan(0), 1);
        check.due("south and west, both 14", corner.plan(1), 3);
        Warren hits = alone();
        for (int direction = 3; direction >= 0; direction--) {
            hits.come(1, at(5, 5) + DIRECTIONS[direction], 60);
            check.due("HITS from the direction " + direction + " on", hits.plan(0), 1 + direction);
        }
        Warren doors = alone();
        for (int direction = 3; direction >= 0; direction--) {
            doors.set(at(5, 5) + DIRECTIONS[direction], 2);
            check.due("doors from the direction " + direction + " on", doors.plan(0), 1 + direction);
        }
        Warren wall = alone();
        wall.come(1, at(9, 5), 9);
        wall.set(at(6, 5), 1);
        check.due("around a wall, north and south, both 14", wall.plan(0), 1);
    }

    static void promise19AsIfItWasItsTurn() {
        Warren warren = alone();
        warren.come(1, at(8, 5), 9);
        check.due("whose TURN it is", warren.many(3), 0);
        check.due("plan(0)", warren.plan(0), 2);
        check.due("plan(1)", warren.plan(1), 4);
    }

    static void promise19WhatItPlansIsPossible() {
        Warren warren = Given.FULL.get();
        for (int i = 0; i < 60 && warren.many(3) >= 0; i++) {
            int actions = warren.many(4);
            warren.act(warren.plan(warren.many(3)));
            check.due("many(4)", warren.many(4), actions + 1);
        }
    }

    static void promise19OneBetterThanAnother() {
        Warren warren = afraid();
        check.due("AFRAID and alone: GUARD 24 against HEAL 21", warren.plan(0), 6);
        warren.lay(0, SHIELD, 1, 20);
        check.due("GUARD 21 and HEAL 21: the smaller number", warren.plan(0), 6);
        warren.lay(0, SHIELD, 1, 20);
        check.due("GUARD 18 against HEAL 21", warren.plan(0), 7);
        warren.come(1, at(6, 5), 60);
        check.due("a HIT of 29", warren.plan(0), 2);
    }

    static void promise19AskingChangesNothing() {
        for (Given given : Given.values()) {
            check.leaves("plan()", given, PlansEdgesTest::askPlan);
        }
    }

    private static void askPlan(Warren warren) {
        for (int being = 0; being < warren.many(0); being++) {
            warren.plan(being);
        }
    }
}
