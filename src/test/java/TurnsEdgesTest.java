/** Promises 14 and 15, turns: each sentence that names an edge, in a case of its own. */
public final class TurnsEdgesTest {
    private static final Class<?> ARGUMENT = IllegalArgumentException.class;
    private static final Class<?> STATE = IllegalStateException.class;
    private static final int[] NO_ACTIONS = Given.outside(0, 7);
    private static final int POISON = 0;
    private static final int REST = 1;
    private static final int STRONG = 2;
    private static final int SHIELD = 3;
    private static final int SLOW = 4;

    private static final Check check = new Check("TurnsEdgesTest");

    public static void main(String[] args) {
        Cases.run(TurnsEdgesTest.class, check, 14, 15);
    }

    private static int at(int x, int y) {
        return Given.at(x, y);
    }

    private static Warren hall() {
        return Given.hall();
    }

    /** 0 of the side 0 in the middle, its TURN; 1 of the side 1 to the east of it. */
    private static Warren sideBySide(int life, int otherLife) {
        Warren warren = hall();
        warren.come(0, at(5, 5), life);
        warren.come(1, at(6, 5), otherLife);
        return warren;
    }

    private static Warren alone(int most) {
        Warren warren = hall();
        warren.come(0, at(5, 5), most);
        return warren;
    }

    private static void dueEffect(String when, Warren warren, int being, int effect, int stack, int turns) {
        check.due(when + ": STACK of " + effect, warren.effect(being, effect, false), stack);
        check.due(when + ": TURNS of " + effect, warren.effect(being, effect, true), turns);
    }

    // ---- 14: act

    static void promise14ActionIsFrom0To7() {
        for (int action = 0; action <= 7; action++) {
            check.due("act(" + action + ")", sideBySide(9, 9).act(action), action == 2 ? 3 : 0);
        }
        for (Given given : Given.values()) {
            for (int action : NO_ACTIONS) {
                check.refused("act(" + action + ")", given, ARGUMENT, w -> w.act(action));
            }
        }
    }

    static void promise14NoSuchActionComesAheadOfNoTurn() {
        for (Given given : new Given[] {Given.NEW, Given.HALL, Given.ALL_DEAD}) {
            check.due(given + ": no TURN", given.get().many(3), -1);
            check.refused("act(-1)", given, ARGUMENT, w -> w.act(-1));
            check.refused("act(8)", given, ARGUMENT, w -> w.act(8));
        }
    }

    static void promise14WithoutATurnNothingIsDone() {
        for (Given given : new Given[] {Given.NEW, Given.HALL, Given.ALL_DEAD}) {
            for (int action = 0; action <= 7; action++) {
                int which = action;
                check.refused("act(" + action + ")", given, STATE, w -> w.act(which));
            }
        }
    }

    static void promise14TheSmallestTimeHasTheTurn() {
        Warren warren = sideBySide(60, 60);
        warren.become(0, 5, 2, 1);
        warren.become(1, 5, 2, 4);
        int[] due = {0, 1, 1, 1, 1, 0, 1, 1, 1, 1, 0};
        for (int i = 0; i < due.length; i++) {
            check.due("many(3) behind " + i, warren.many(3), due[i]);
            warren.act(0);
        }
    }

    static void promise14OfSeveralTheSmallestNumber() {
        Warren warren = hall();
        for (int being = 0; being < 10; being++) {
            warren.come(being % 2, at(10 - being, 4), 9);
        }
        for (int i = 0; i < 30; i++) {
            check.due("many(3) behind " + i, warren.many(3), i % 10);
            warren.act(0);
        }
    }

    static void promise14OneThatIsDeadHasNoTurn() {
        Warren warren = hall();
        warren.come(0, at(5, 5), 3);
        warren.come(1, at(6, 5), 9);
        warren.come(0, at(7, 5), 9);
        warren.become(0, 5, 2, 4);
        warren.lay(0, POISON, 3, 1);
        warren.act(0);
        check.due("TIME of the dead one", warren.of(0, 8), 3);
        int[] due = {1, 2, 1, 2, 1};
        for (int i = 0; i < due.length; i++) {
            check.due("many(3) behind " + i, warren.many(3), due[i]);
            warren.act(0);
        }
    }

    static void promise14WaitGives1ManaUpTo9() {
        Warren warren = alone(9);
        for (int mana = 3; mana <= 12; mana++) {
            check.due("MANA", warren.of(0, 7), Math.min(mana, 9));
            check.due("act(0)", warren.act(0), 0);
        }
        check.due("where it is", warren.of(0, 1), at(5, 5));
    }

    static void promise14GoInEachDirection() {
        int[] cells = {at(5, 4), at(6, 5), at(5, 6), at(4, 5)};
        for (int direction = 0; direction < 4; direction++) {
            for (int kind = 0; kind <= 3; kind += 3) {
                Warren warren = alone(9);
                warren.set(cells[direction], kind);
                check.due("GO " + direction + " to a " + kind, warren.act(1 + direction), 0);
                check.due("where it is", warren.of(0, 1), cells[direction]);
                check.due("what that is", warren.cell(cells[direction]), kind);
                check.due("MANA", warren.of(0, 7), 3);
                check.due("TIME, as long to water", warren.of(0, 8), 6);
            }
        }
    }

    static void promise14NoGoIntoAWall() {
        int[] cells = {at(5, 4), at(6, 5), at(5, 6), at(4, 5)};
        Warren warren = alone(9);
        for (int direction = 0; direction < 4; direction++) {
            int action = 1 + direction;
            warren.set(cells[direction], 1);
            check.refused("GO " + direction + " into a wall", warren, STATE, () -> warren.act(action));
        }
        check.due("shut in, it waits", warren.act(0), 0);
    }

    static void promise14NoGoOntoTheRim() {
        int[][] corners = {{1, 1, 1, 4}, {14, 1, 1, 2}, {1, 8, 3, 4}, {14, 8, 2, 3}};
        for (int[] corner : corners) {
            Warren warren = hall();
            warren.come(1, at(corner[0], corner[1]), 9);
            check.refused("GO " + corner[2], warren, STATE, () -> warren.act(corner[2]));
            check.refused("GO " + corner[3], warren, STATE, () -> warren.act(corner[3]));
        }
    }

    static void promise14NoGoOntoOneOfItsOwnSide() {
        for (int side = 0; side <= 1; side++) {
            Warren warren = hall();
            warren.come(side, at(5, 5), 9);
            warren.come(side, at(6, 5), 9);
            warren.come(side, at(5, 4), 9);
            check.refused("GO east", warren, STATE, () -> warren.act(2));
            check.refused("GO north", warren, STATE, () -> warren.act(1));
            check.due("GO south", warren.act(3), 0);
        }
    }

    static void promise14GoToWhereOneDied() {
        Warren warren = sideBySide(9, 3);
        check.due("the HIT", warren.act(2), 3);
        check.due("the GO", warren.act(2), 0);
        check.due("where it is", warren.of(0, 1), at(6, 5));
        check.due("no HIT of the dead one", warren.many(5), 1);
    }

    static void promise14WhoHitsStaysWhereItIs() {
        for (int kind = 0; kind <= 3; kind += 3) {
            Warren warren = sideBySide(9, 9);
            warren.set(at(6, 5), kind);
            check.due("the HIT", warren.act(2), 3);
            check.due("where it is", warren.of(0, 1), at(5, 5));
            check.due("where the other one is", warren.of(1, 1), at(6, 5));
            check.due("what that is", warren.cell(at(6, 5)), kind);
            check.due("LIFE of it", warren.of(0, 2), 9);
            check.due("LIFE of the other one", warren.of(1, 2), 6);
        }
    }

    static void promise14AHitIsForceLessGuardBut1AtTheLeast() {
        int[][] due = {
            // FORCE, STRONG, GUARD, SHIELD, the HIT
            {0, 0, 0, 0, 1}, {1, 0, 0, 0, 1}, {2, 0, 0, 0, 2}, {0, 0, 20, 9, 1}, {20, 0, 20, 0, 1}, {20, 1, 20, 0, 1},
            {20, 2, 20, 0, 2}, {20, 9, 0, 0, 29}, {20, 9, 20, 9, 1}, {0, 9, 0, 9, 1}, {5, 4, 2, 4, 3}, {10, 0, 2, 9, 1},
        };
        for (int[] a : due) {
            Warren warren = sideBySide(60, 60);
            warren.become(0, a[0], 0, 2);
            warren.become(1, 0, a[2], 2);
            if (a[1] > 0) {
                warren.lay(0, STRONG, a[1], 1);
            }
            if (a[3] > 0) {
                warren.lay(1, SHIELD, a[3], 1);
            }
            check.due(a[0] + " + " + a[1] + " - " + a[2] + " - " + a[3], warren.act(2), a[4]);
            check.due("LIFE then", warren.of(1, 2), 60 - a[4]);
        }
    }

    static void promise14AHitAnswersNoMoreThanTheyHad() {
        for (int life = 1; life <= 5; life++) {
            Warren warren = sideBySide(9, life);
            check.due("a HIT of 3 with a LIFE of " + life, warren.act(2), Math.min(life, 3));
            check.due("LIFE then", warren.of(1, 2), Math.max(life - 3, 0));
            check.due("CELL then", warren.of(1, 1), life <= 3 ? -1 : at(6, 5));
            check.due("many(2)", warren.many(2), life <= 3 ? 0 : 1);
            check.due("many(5)", warren.many(5), 1);
        }
    }

    static void promise14AHitAndWhatItsOwnPoisonTakes() {
        Warren warren = sideBySide(9, 9);
        warren.lay(0, POISON, 4, 1);
        check.due("the other side's alone", warren.act(2), 3);
        check.due("LIFE of it", warren.of(0, 2), 5);
        warren.lay(1, POISON, 4, 1);
        check.due("WAIT with POISON", warren.act(0), 0);
        check.due("LIFE of the other one", warren.of(1, 2), 2);
    }

    static void promise14BothDieAtOnce() {
        Warren warren = sideBySide(2, 3);
        warren.lay(0, POISON, 2, 1);
        check.due("the HIT", warren.act(2), 3);
        check.due("many(3)", warren.many(3), -1);
        check.due("many(4)", warren.many(4), 1);
        check.due("many(5)", warren.many(5), 1);
        check.dueMean("meanLife()", warren.meanLife(), 0.0);
        check.refused("act(0)", warren, STATE, () -> warren.act(0));
    }

    static void promise14ADoorBecomesFloorAndItStays() {
        int[] cells = {at(5, 4), at(6, 5), at(5, 6), at(4, 5)};
        for (int direction = 0; direction < 4; direction++) {
            Warren warren = alone(9);
            warren.set(cells[direction], 2);
            check.due("a door " + direction, warren.act(1 + direction), 0);
            check.due("what it is then", warren.cell(cells[direction]), 0);
            check.due("where it is", warren.of(0, 1), at(5, 5));
            check.due("TIME", warren.of(0, 8), 6);
            warren.act(1 + direction);
            check.due("where it is then", warren.of(0, 1), cells[direction]);
        }
    }

    static void promise14MagicTakes3Mana() {
        for (int action = 5; action <= 7; action++) {
            int which = action;
            for (int mana = 0; mana <= 9; mana++) {
                Warren warren = alone(60);
                warren.act(6);
                for (int i = 0; i < mana; i++) {
                    warren.act(0);
                }
                warren.come(1, at(7, 5), 60);
                check.due("whose TURN it is", warren.many(3), 0);
                if (mana < 3) {
                    check.refused("act(" + action + ") with " + mana, warren, STATE, () -> warren.act(which));
                } else {
                    check.due("act(" + action + ") with " + mana, warren.act(action), 0);
                    check.due("MANA", warren.of(0, 7), mana - 3);
                }
            }
        }
    }

    static void promise14CurseNeedsATarget() {
        Warren none = alone(9);
        check.refused("no other one", none, STATE, () -> none.act(5));
        none.come(0, at(6, 5), 9);
        check.refused("none of the other side", none, STATE, () -> none.act(5));
        none.come(1, at(13, 5), 9);
        check.refused("one 8 columns off", none, STATE, () -> none.act(5));
        none.come(1, at(12, 5), 9);
        check.due("one 7 columns off", none.act(5), 0);
        dueEffect("7 columns off", none, 3, POISON, 2, 3);
        check.refused("the dead alone", Given.SIDE_0_DEAD, STATE, w -> w.act(5));
        for (int kind = 0; kind <= 3; kind++) {
            Warren warren = alone(9);
            warren.come(1, at(8, 5), 9);
            warren.set(at(7, 5), kind);
            if (kind == 1 || kind == 2) {
                check.refused("past a " + kind, warren, STATE, () -> warren.act(5));
            } else {
                check.due("past a " + kind, warren.act(5), 0);
            }
        }
    }

    static void promise14CurseLays2For3OnItsTarget() {
        int[][] due = {
            // STACK and TURNS ahead of it, and behind it
            {0, 0, 2, 3}, {1, 1, 3, 3}, {6, 2, 8, 3}, {7, 3, 9, 3}, {8, 4, 9, 4}, {9, 20, 9, 20},
        };
        for (int[] a : due) {
            Warren warren = sideBySide(9, 9);
            if (a[0] > 0) {
                warren.lay(1, POISON, a[0], a[1]);
            }
            check.due("act(5)", warren.act(5), 0);
            dueEffect("behind a STACK of " + a[0], warren, 1, POISON, a[2], a[3]);
            dueEffect("on itself", warren, 0, POISON, 0, 0);
            check.due("LIFE of the other one", warren.of(1, 2), 9);
        }
    }

    /** A STACK of 2 for 3 TURNS: behind each of the next 3 ACTIONS of the one that is cursed, and of no other one. */
    static void promise14ACurseTakes2BehindEachOf3Actions() {
        Warren warren = sideBySide(60, 20);
        warren.act(5);
        int[] due = {18, 16, 14, 14, 14};
        for (int i = 0; i < due.length; i++) {
            int ahead = i == 0 ? 20 : due[i - 1];
            check.due("whose TURN it is", warren.many(3), 1);
            check.due("LIFE ahead of its ACTION " + i, warren.of(1, 2), ahead);
            check.due("act(0)", warren.act(0), 0);
            check.due("LIFE behind its ACTION " + i, warren.of(1, 2), due[i]);
            warren.act(0);
            check.due("LIFE behind that of the other one", warren.of(1, 2), due[i]);
        }
        check.due("LIFE of the one that cursed", warren.of(0, 2), 60);
    }

    static void promise14ACurseKillsAsTheOtherOneActs() {
        Warren warren = sideBySide(60, 2);
        check.due("act(5)", warren.act(5), 0);
        check.due("it lives", warren.many(2), 1);
        check.due("its own HIT", warren.act(4), 3);
        check.due("it is dead", warren.of(1, 2), 0);
        check.due("many(2)", warren.many(2), 0);
        dueEffect("of the dead one", warren, 1, POISON, 2, 2);
    }

    static void promise14CurseTakesTheNearestAndOfSeveralTheSmallestNumber() {
        Warren warren = alone(9);
        warren.come(1, at(8, 5), 9);
        warren.come(1, at(5, 7), 9);
        warren.come(1, at(7, 7), 9);
        warren.act(5);
        dueEffect("3 off", warren, 1, POISON, 0, 0);
        dueEffect("2 off", warren, 2, POISON, 2, 3);
        dueEffect("2 off, too", warren, 3, POISON, 0, 0);
    }

    static void promise14GuardItselfLays3For4() {
        int[][] due = {
            // STACK and TURNS ahead of it, and behind it, with 1 of the TURNS over already
            {0, 0, 3, 3}, {1, 1, 4, 3}, {5, 4, 8, 3}, {6, 5, 9, 4}, {7, 2, 9, 3}, {9, 20, 9, 19},
        };
        for (int[] a : due) {
            Warren warren = sideBySide(9, 9);
            if (a[0] > 0) {
                warren.lay(0, SHIELD, a[0], a[1]);
            }
            check.due("act(6)", warren.act(6), 0);
            dueEffect("behind a STACK of " + a[0], warren, 0, SHIELD, a[2], a[3]);
            dueEffect("on the other one", warren, 1, SHIELD, 0, 0);
        }
    }

    static void promise14HealItselfLays2For4() {
        int[][] due = {
            {0, 0, 2, 3}, {1, 1, 3, 3}, {6, 4, 8, 3}, {7, 5, 9, 4}, {8, 2, 9, 3}, {9, 20, 9, 19},
        };
        for (int[] a : due) {
            Warren warren = alone(60);
            warren.lay(0, POISON, 9, 4);
            for (int i = 0; i < 4; i++) {
                warren.act(0);
            }
            if (a[0] > 0) {
                warren.lay(0, REST, a[0], a[1]);
            }
            check.due("act(7)", warren.act(7), 0);
            dueEffect("behind a STACK of " + a[0], warren, 0, REST, a[2], a[3]);
            check.due("LIFE, with that REST already", warren.of(0, 2), 24 + a[2]);
        }
    }

    /** A STACK of 3 for 4 TURNS, the first of which is that of its own ACTION. */
    static void promise14AShieldHoldsUntilTheThirdActionBehindIt() {
        Warren warren = sideBySide(60, 60);
        warren.become(1, 10, 2, 2);
        warren.act(6);
        int[] due = {5, 5, 5, 8, 8};
        for (int i = 0; i < due.length; i++) {
            check.due("a HIT of 10 less 2, " + i + " of its ACTIONS later", warren.act(4), due[i]);
            warren.act(0);
        }
    }

    /** A STACK of 2 for 4 TURNS, the first of which is that of its own ACTION. */
    static void promise14HealItselfGives2BehindEachOf4Actions() {
        Warren warren = alone(20);
        warren.lay(0, POISON, 9, 2);
        warren.act(0);
        warren.act(0);
        check.due("LIFE", warren.of(0, 2), 2);
        int[] due = {4, 6, 8, 10, 10};
        for (int i = 0; i < due.length; i++) {
            warren.act(i == 0 ? 7 : 0);
            check.due("LIFE behind " + i, warren.of(0, 2), due[i]);
        }
    }

    /** STRONG and SHIELD count in the last ACTION of their TURNS still, as they are gone behind it only. */
    static void promise14AnEffectCountsInItsLastAction() {
        Warren warren = sideBySide(60, 60);
        warren.lay(0, STRONG, 4, 1);
        warren.lay(1, SHIELD, 2, 1);
        check.due("STRONG 4, 1 TURN, against SHIELD 2", warren.act(2), 5);
        dueEffect("of the one that acted", warren, 0, STRONG, 0, 0);
        dueEffect("of the other one", warren, 1, SHIELD, 2, 1);
        warren.act(0);
        dueEffect("of the other one, as it acted", warren, 1, SHIELD, 0, 0);
        check.due("neither", warren.act(2), 3);
    }

    static void promise14RestGivesUpToMostLife() {
        for (int lost = 1; lost <= 9; lost++) {
            for (int rest = 1; rest <= 9; rest++) {
                Warren warren = alone(20);
                warren.lay(0, POISON, lost, 1);
                warren.act(0);
                warren.lay(0, REST, rest, 1);
                warren.act(0);
                check.due("LIFE with " + lost + " lost and a REST of " + rest, warren.of(0, 2),
                        Math.min(20 - lost + rest, 20));
            }
        }
        Warren whole = alone(1);
        whole.lay(0, REST, 9, 1);
        whole.act(0);
        check.due("LIFE of 1 of 1", whole.of(0, 2), 1);
    }

    static void promise14PoisonComesAheadOfRest() {
        Warren dead = alone(3);
        dead.lay(0, POISON, 3, 1);
        dead.lay(0, REST, 9, 1);
        dead.act(0);
        check.due("LIFE 3, POISON 3, REST 9", dead.of(0, 2), 0);
        Warren alive = alone(4);
        alive.lay(0, POISON, 3, 1);
        alive.lay(0, REST, 2, 1);
        alive.act(0);
        check.due("LIFE 4, POISON 3, REST 2", alive.of(0, 2), 3);
        Warren healing = alone(2);
        healing.lay(0, POISON, 2, 1);
        healing.act(7);
        check.due("HEAL ITSELF does not save it", healing.of(0, 2), 0);
        dueEffect("REST of the dead one", healing, 0, REST, 2, 3);
    }

    static void promise14PoisonTakesItsStack() {
        for (int life = 1; life <= 12; life++) {
            for (int stack = 1; stack <= 9; stack++) {
                Warren warren = alone(life);
                warren.lay(0, POISON, stack, 1);
                check.due("act(0)", warren.act(0), 0);
                check.due("LIFE " + life + ", POISON " + stack, warren.of(0, 2), Math.max(life - stack, 0));
                check.due("CELL", warren.of(0, 1), life <= stack ? -1 : at(5, 5));
                check.due("many(1)", warren.many(1), life <= stack ? 0 : 1);
            }
        }
    }

    static void promise14EachOfItsEffectsHasATurnLess() {
        for (int life : new int[] {1, 60}) {
            for (int turns = 1; turns <= 3; turns++) {
                Warren warren = alone(life);
                for (int effect = 0; effect < 5; effect++) {
                    warren.lay(0, effect, 4, turns);
                }
                warren.act(0);
                check.due("LIFE", warren.of(0, 2), life == 1 ? 0 : 60);
                for (int effect = 0; effect < 5; effect++) {
                    dueEffect("LIFE " + life, warren, 0, effect, turns == 1 ? 0 : 4, turns - 1);
                }
            }
        }
    }

    static void promise14TheEffectsOfTheOthersStay() {
        Warren warren = sideBySide(60, 60);
        warren.come(0, at(1, 1), 60);
        for (int being = 1; being <= 2; being++) {
            for (int effect = 0; effect < 5; effect++) {
                warren.lay(being, effect, 5, 2);
            }
        }
        warren.act(2);
        for (int being = 1; being <= 2; being++) {
            for (int effect = 0; effect < 5; effect++) {
                dueEffect("of " + being, warren, being, effect, 5, 2);
            }
        }
        check.due("LIFE with POISON", warren.of(2, 2), 60);
    }

    static void promise14TimeIs12BySpeed() {
        int[] due = {12, 6, 4, 3};
        for (int speed = 1; speed <= 4; speed++) {
            for (int action = 0; action < 8; action++) {
                Warren warren = sideBySide(60, 60);
                warren.become(0, 5, 2, speed);
                warren.act(action);
                check.due("TIME, SPEED " + speed + ", act(" + action + ")", warren.of(0, 8), due[speed - 1]);
                check.due("TIME of the other one", warren.of(1, 8), 0);
            }
        }
    }

    static void promise14SlowTakesTwiceAsLong() {
        int[] due = {24, 12, 8, 6};
        for (int speed = 1; speed <= 4; speed++) {
            for (int turns = 1; turns <= 2; turns++) {
                Warren warren = alone(60);
                warren.become(0, 5, 2, speed);
                warren.lay(0, SLOW, 9, turns);
                warren.act(0);
                check.due("TIME behind the first of " + turns, warren.of(0, 8), due[speed - 1]);
                warren.act(0);
                check.due("TIME behind the second", warren.of(0, 8),
                        turns == 2 ? 2 * due[speed - 1] : due[speed - 1] + due[speed - 1] / 2);
            }
        }
    }

    static void promise14OneThatDiesTakesItsTime() {
        Warren warren = alone(1);
        warren.lay(0, POISON, 1, 1);
        warren.act(0);
        check.due("TIME", warren.of(0, 8), 6);
        Warren slow = alone(1);
        slow.lay(0, POISON, 1, 1);
        slow.lay(0, SLOW, 1, 1);
        slow.act(2);
        check.due("TIME, SLOW", slow.of(0, 8), 12);
        check.due("MANA of one that waited", warren.of(0, 7), 4);
        check.due("CELL of one that went", slow.of(0, 1), -1);
        check.due("on(where it went)", slow.on(at(6, 5)), -1);
    }

    static void promise14OnlyHitsLoseLife() {
        for (int action = 0; action < 8; action++) {
            Warren warren = sideBySide(60, 60);
            check.due("act(" + action + ")", warren.act(action), action == 2 ? 3 : 0);
            check.due("LIFE of the other one", warren.of(1, 2), action == 2 ? 57 : 60);
            check.due("many(4)", warren.many(4), 1);
            check.due("many(5)", warren.many(5), action == 2 ? 1 : 0);
        }
    }

    /** 0 has its TURN, no MANA, walls and one of its side around it, and no foe in sight. */
    private static Warren shutIn() {
        Warren warren = hall();
        warren.come(0, at(5, 5), 60);
        warren.act(6);
        warren.come(0, at(6, 5), 60);
        warren.come(1, at(13, 5), 60);
        warren.set(at(5, 4), 1);
        warren.set(at(5, 6), 1);
        warren.set(at(4, 5), 1);
        warren.lay(0, POISON, 9, 20);
        warren.lay(0, SLOW, 9, 20);
        warren.save();
        return warren;
    }

    static void promise14WhatIsRefusedLeavesAllAsItWas() {
        check.due("whose TURN it is", shutIn().many(3), 0);
        for (int action = 1; action <= 7; action++) {
            int which = action;
            check.refused("act(" + action + "), shut in", TurnsEdgesTest::shutIn, STATE, w -> w.act(which));
        }
        check.due("act(0), shut in", shutIn().act(0), 0);
        check.refused("a CURSE of one side alone", Given.ONE_SIDE, STATE, w -> w.act(5));
        check.refused("a CURSE of the dead", Given.SIDE_0_DEAD, STATE, w -> w.act(5));
    }

    // ---- 15: follow

    static void promise15TurnsAreFrom1To40() {
        check.due("follow(1)", shutApart().follow(1), 1);
        check.due("follow(40)", shutApart().follow(40), 40);
        for (Given given : Given.values()) {
            for (int turns : Given.outside(1, 40)) {
                check.refused("follow(" + turns + ")", given, ARGUMENT, w -> w.follow(turns));
            }
        }
    }

    /** Both sides have one, and neither ever comes to the other one. */
    private static Warren shutApart() {
        Warren warren = new Warren();
        warren.dig(1, 1, 2, 1);
        warren.dig(5, 5, 2, 1);
        warren.come(0, at(1, 1), 60);
        warren.come(1, at(5, 5), 60);
        return warren;
    }

    static void promise15WithoutBothSidesNothingIsDone() {
        Given[] states = {Given.NEW, Given.HALL, Given.ONE_SIDE, Given.SIDE_0_DEAD, Given.ALL_DEAD};
        for (Given given : states) {
            check.due(given + ": follow(1)", given.get().follow(1), 0);
            check.due(given + ": follow(40)", given.get().follow(40), 0);
            check.leaves("follow(40)", given, w -> w.follow(40));
        }
    }

    static void promise15NoMoreThanItIsAskedFor() {
        for (int turns = 1; turns <= 40; turns++) {
            Warren warren = shutApart();
            check.due("follow(" + turns + ")", warren.follow(turns), turns);
            check.due("many(4)", warren.many(4), turns);
            check.due("many(4) behind follow(40)", warren.follow(40) + turns, warren.many(4));
        }
    }

    static void promise15EndsWhenTheLastOneOfASideIsHitDead() {
        Warren warren = sideBySide(60, 3);
        check.due("follow(40)", warren.follow(40), 1);
        check.due("many(2)", warren.many(2), 0);
        check.due("follow(40) again", warren.follow(40), 0);
        Warren other = sideBySide(3, 60);
        other.act(0);
        check.due("the side 0", other.follow(40), 1);
        check.due("many(1)", other.many(1), 0);
    }

    static void promise15EndsWhenTheLastOneOfASideDiesByPoison() {
        Warren warren = sideBySide(3, 60);
        warren.lay(0, POISON, 3, 1);
        check.due("follow(40)", warren.follow(40), 1);
        check.due("many(1)", warren.many(1), 0);
        check.due("many(4)", warren.many(4), 1);
    }

    static void promise15EndsWhenBothSidesDieAtOnce() {
        Warren warren = sideBySide(3, 3);
        warren.lay(0, POISON, 3, 1);
        check.due("follow(40)", warren.follow(40), 1);
        check.due("many(3)", warren.many(3), -1);
        check.due("follow(1)", warren.follow(1), 0);
    }

    static void promise15GoesOnWhileASideHasAnotherOne() {
        Warren warren = sideBySide(60, 3);
        warren.come(1, at(13, 8), 60);
        check.due("follow(2)", warren.follow(2), 2);
        check.due("many(2)", warren.many(2), 1);
        check.due("many(4)", warren.many(4), 2);
    }

    static void promise15EachDoesItsPlan() {
        for (Given given : new Given[] {Given.PAIR, Given.FULL}) {
            Warren warren = given.get();
            Warren other = given.get();
            for (int i = 0; i < 60; i++) {
                boolean isOver = other.many(1) == 0 || other.many(2) == 0;
                if (!isOver) {
                    other.act(other.plan(other.many(3)));
                }
                check.due(given + ": follow(1)", warren.follow(1), isOver ? 0 : 1);
                check.due(given + ": digest() behind " + i, warren.digest(), other.digest());
            }
        }
    }

    static void promise15ManyAtOnceAreAsManyOneByOne() {
        for (Given given : new Given[] {Given.PAIR, Given.FULL}) {
            for (int turns = 1; turns <= 40; turns++) {
                Warren warren = given.get();
                Warren other = given.get();
                int done = 0;
                for (int i = 0; i < turns; i++) {
                    done += other.follow(1);
                }
                check.due(given + ": follow(" + turns + ")", warren.follow(turns), done);
                check.due(given + ": digest()", warren.digest(), other.digest());
            }
        }
    }
}
