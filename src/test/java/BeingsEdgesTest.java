import java.util.Arrays;

/** Promises 8 to 13, beings: each sentence that names an edge, in a case of its own. */
public final class BeingsEdgesTest {
    private static final Class<?> ARGUMENT = IllegalArgumentException.class;
    private static final Class<?> INDEX = IndexOutOfBoundsException.class;
    private static final Class<?> STATE = IllegalStateException.class;
    private static final int HIGH = Integer.MAX_VALUE;
    private static final int LOW = Integer.MIN_VALUE;

    private static final Check check = new Check("BeingsEdgesTest");

    public static void main(String[] args) {
        Cases.run(BeingsEdgesTest.class, check, 8, 13);
    }

    private static int at(int x, int y) {
        return Given.at(x, y);
    }

    private static Warren hall() {
        return Given.hall();
    }

    private static void dueOf(String when, Warren warren, int being, int... want) {
        for (int what = 0; what < want.length; what++) {
            check.due(when + ": of(" + being + ", " + what + ")", warren.of(being, what), want[what]);
        }
    }

    private static void dueEffect(String when, Warren warren, int being, int effect, int stack, int turns) {
        check.due(when + ": STACK of " + effect, warren.effect(being, effect, false), stack);
        check.due(when + ": TURNS of " + effect, warren.effect(being, effect, true), turns);
    }

    private static void dueNoEffects(String when, Warren warren, int being) {
        for (int effect = 0; effect < 5; effect++) {
            dueEffect(when, warren, being, effect, 0, 0);
        }
    }

    /** One that came alone with the most life, and has lost the rest by POISON. */
    private static Warren withLife(int life, int most) {
        Warren warren = hall();
        warren.come(0, at(5, 5), most);
        for (int left = most - life; left > 0; left -= 9) {
            warren.lay(0, 0, Math.min(left, 9), 1);
            warren.act(0);
        }
        return warren;
    }

    // ---- 8: come

    static void promise8CellIsFrom0To159() {
        check.due("come(0, 17, 5)", hall().come(0, 17, 5), 0);
        check.due("come(0, 142, 5)", hall().come(0, 142, 5), 0);
        for (Given given : Given.values()) {
            for (int cell : Given.outside(0, 159)) {
                check.refused("come(0, " + cell + ", 5)", given, INDEX, w -> w.come(0, cell, 5));
            }
            check.refused("come(0, 0, 5)", given, STATE, w -> w.come(0, 0, 5));
            check.refused("come(0, 159, 5)", given, STATE, w -> w.come(0, 159, 5));
        }
    }

    static void promise8SideIs0Or1() {
        for (int side = 0; side <= 1; side++) {
            Warren warren = hall();
            check.due("come(" + side + ", 17, 5)", warren.come(side, 17, 5), 0);
            check.due("its SIDE", warren.of(0, 0), side);
        }
        for (Given given : Given.values()) {
            for (int side : Given.outside(0, 1)) {
                check.refused("come(" + side + ", 17, 5)", given, ARGUMENT, w -> w.come(side, 17, 5));
            }
        }
    }

    static void promise8LifeIsFrom1To60() {
        for (int life : new int[] {1, 2, 59, 60}) {
            Warren warren = hall();
            check.due("come(1, 17, " + life + ")", warren.come(1, 17, life), 0);
            dueOf("it came", warren, 0, 1, 17, life, life);
        }
        for (Given given : Given.values()) {
            for (int life : Given.outside(1, 60)) {
                check.refused("come(1, 17, " + life + ")", given, ARGUMENT, w -> w.come(1, 17, life));
            }
        }
    }

    static void promise8NoSuchCellComesFirst() {
        for (int cell : new int[] {LOW, -1, 160, HIGH}) {
            check.refused("no cell, no side", Given.FULL, INDEX, w -> w.come(2, cell, 5));
            check.refused("no cell, no life", Given.FULL, INDEX, w -> w.come(0, cell, 0));
            check.refused("no cell, no side, no life", Given.FULL, INDEX, w -> w.come(-1, cell, 61));
        }
    }

    static void promise8NoSuchSideOrLifeComesAheadOfWhereItCannotBe() {
        for (int side : new int[] {LOW, -1, 2, HIGH}) {
            check.refused("no side, a wall", Given.PAIR, ARGUMENT, w -> w.come(side, 0, 5));
            check.refused("no side, a door", Given.PAIR, ARGUMENT, w -> w.come(side, at(6, 5), 5));
            check.refused("no side, another one", Given.PAIR, ARGUMENT, w -> w.come(side, w.of(0, 1), 5));
            check.refused("no side, an 11th", Given.FULL, ARGUMENT, w -> w.come(side, at(1, 8), 5));
        }
        for (int life : new int[] {LOW, -1, 0, 61, HIGH}) {
            check.refused("no life, a wall", Given.PAIR, ARGUMENT, w -> w.come(0, 0, life));
            check.refused("no life, another one", Given.PAIR, ARGUMENT, w -> w.come(0, w.of(0, 1), life));
            check.refused("no life, an 11th", Given.FULL, ARGUMENT, w -> w.come(0, at(1, 8), life));
        }
    }

    static void promise8OnFloorAndInWater() {
        for (int kind = 0; kind <= 3; kind++) {
            Warren warren = hall();
            warren.set(at(5, 5), kind);
            if (kind == 1 || kind == 2) {
                check.refused("come on a " + kind, warren, STATE, () -> warren.come(0, at(5, 5), 5));
            } else {
                check.due("come on a " + kind, warren.come(0, at(5, 5), 5), 0);
                check.due("it is there", warren.on(at(5, 5)), 0);
            }
        }
        check.refused("come where nothing is dug", Given.NEW, STATE, w -> w.come(0, 17, 5));
    }

    static void promise8WhereNoOtherOneIs() {
        for (int side = 0; side <= 1; side++) {
            int which = side;
            check.refused("on one of the side 0", Given.PAIR, STATE, w -> w.come(which, w.of(0, 1), 5));
            check.refused("on one of the side 1", Given.PAIR, STATE, w -> w.come(which, w.of(1, 1), 5));
        }
        Warren warren = hall();
        warren.come(0, at(5, 5), 5);
        check.due("beside another one", warren.come(1, at(6, 5), 5), 1);
    }

    static void promise8WhereOneDied() {
        Warren warren = Given.ALL_DEAD.get();
        check.due("where 0 died", warren.come(1, at(4, 4), 5), 2);
        check.due("where 1 died", warren.come(0, at(8, 4), 5), 3);
        check.due("on(68)", warren.on(at(4, 4)), 2);
        dueOf("the dead one stays", warren, 0, 0, -1, 0, 3);
    }

    static void promise8At10NoneComesMore() {
        Warren warren = hall();
        for (int being = 0; being < 10; being++) {
            check.due("come " + being, warren.come(1, 17 + being, 5), being);
        }
        for (int side = 0; side <= 1; side++) {
            int which = side;
            check.refused("an 11th", warren, STATE, () -> warren.come(which, at(5, 5), 5));
            check.refused("an 11th", Given.FULL, STATE, w -> w.come(which, at(1, 8), 5));
        }
    }

    static void promise8TheDeadCountAmongThe10() {
        Warren warren = hall();
        for (int being = 0; being < 10; being++) {
            warren.come(being % 2, at(5, 5), 1);
            warren.lay(being, 0, 1, 1);
            warren.act(0);
        }
        check.due("all are dead", warren.many(3), -1);
        check.due("many(0)", warren.many(0), 10);
        check.refused("an 11th", warren, STATE, () -> warren.come(0, at(5, 5), 5));
    }

    static void promise8OneThatIsRefusedTakesNoNumber() {
        Warren warren = hall();
        warren.come(0, at(5, 5), 5);
        check.refused("on another one", warren, STATE, () -> warren.come(1, at(5, 5), 5));
        check.refused("with no life", warren, ARGUMENT, () -> warren.come(1, at(6, 5), 0));
        check.due("then one comes", warren.come(1, at(6, 5), 5), 1);
        check.due("many(0)", warren.many(0), 2);
    }

    static void promise8AsItComes() {
        Warren warren = hall();
        warren.come(0, at(3, 3), 31);
        warren.come(1, at(9, 6), 1);
        dueOf("0", warren, 0, 0, at(3, 3), 31, 31, 5, 2, 2, 3, 0, 0);
        dueOf("1", warren, 1, 1, at(9, 6), 1, 1, 5, 2, 2, 3, 0, 0);
        dueNoEffects("0", warren, 0);
        dueNoEffects("1", warren, 1);
    }

    static void promise8AsItComesBehindOneWithEffects() {
        Warren warren = Given.PAIR.get();
        for (int effect = 0; effect < 5; effect++) {
            warren.lay(1, effect, 9, 20);
        }
        warren.come(0, at(1, 8), 5);
        dueNoEffects("the one behind it", warren, 2);
        dueOf("the one behind it", warren, 2, 0, at(1, 8), 5, 5, 5, 2, 2, 3, 12, 0);
    }

    static void promise8TimeIs0WithoutATurn() {
        Warren warren = hall();
        warren.come(0, at(5, 5), 5);
        check.due("the first one", warren.of(0, 8), 0);
        Warren dead = Given.ALL_DEAD.get();
        check.due("TIME of the dead", dead.of(0, 8), 6);
        dead.come(0, at(4, 4), 5);
        check.due("behind the dead", dead.of(2, 8), 0);
    }

    static void promise8TimeIsThatOfTheTurn() {
        Warren warren = hall();
        warren.come(0, at(1, 1), 9);
        warren.come(1, at(9, 1), 9);
        warren.act(0);
        warren.come(0, at(1, 3), 9);
        check.due("the TURN is that of 1, at 0", warren.of(2, 8), 0);
        warren.act(0);
        warren.act(0);
        warren.come(0, at(1, 5), 9);
        check.due("all are at 6", warren.of(3, 8), 6);
        warren.become(0, 5, 2, 1);
        warren.act(0);
        warren.come(0, at(1, 7), 9);
        check.due("0 is at 18, the others at 6", warren.of(4, 8), 6);
        check.due("the TURN stays", warren.many(3), 1);
    }

    static void promise8TimeIsNotThatOfTheDead() {
        Warren warren = hall();
        warren.come(0, at(1, 1), 20);
        warren.come(1, at(2, 1), 20);
        warren.become(0, 20, 2, 2);
        warren.act(0);
        warren.act(0);
        warren.act(2);
        warren.lay(1, 0, 2, 1);
        warren.act(0);
        check.due("1 is dead, at 12", warren.of(1, 8) * 100 + warren.of(1, 2), 1200);
        warren.act(0);
        check.due("0 is at 18", warren.of(0, 8), 18);
        warren.come(1, at(9, 8), 20);
        check.due("TIME of the one that is not dead", warren.of(2, 8), 18);
    }

    static void promise8BehindALoadItsNumberIsFree() {
        Warren warren = hall();
        warren.come(0, at(1, 1), 9);
        warren.save();
        for (int being = 1; being < 10; being++) {
            check.due("come " + being, warren.come(1, at(1 + being, 1), 9), being);
        }
        warren.load(0);
        for (int being = 1; being < 10; being++) {
            check.due("come " + being + " again", warren.come(0, at(1 + being, 2), 9), being);
        }
        check.refused("an 11th", warren, STATE, () -> warren.come(0, at(9, 8), 9));
    }

    static void promise8NoActionIsDoneByIt() {
        Warren warren = Given.PAIR.get();
        int actions = warren.many(4);
        int turn = warren.many(3);
        warren.come(0, at(1, 8), 9);
        check.due("many(4)", warren.many(4), actions);
        check.due("many(3)", warren.many(3), turn);
        check.due("many(0)", warren.many(0), 3);
    }

    // ---- 9: become

    static void promise9BeingIsOneThatCame() {
        for (Given given : Given.values()) {
            for (int being : Given.outside(0, given.beings - 1)) {
                check.refused("become(" + being + ", 5, 5, 2)", given, INDEX, w -> w.become(being, 5, 5, 2));
            }
        }
        check.due("the first one", Given.FULL.get().become(0, 5, 5, 2), 0);
        check.due("the last one", Given.FULL.get().become(9, 5, 5, 2), 18);
    }

    static void promise9ForceIsFrom0To20() {
        for (int force : new int[] {0, 1, 19, 20}) {
            Warren warren = Given.PAIR.get();
            check.due("become(0, " + force + ", 5, 2)", warren.become(0, force, 5, 2), 5);
            check.due("of(0, 4)", warren.of(0, 4), force);
        }
        for (int force : Given.outside(0, 20)) {
            check.refused("become(0, " + force + ", 5, 2)", Given.PAIR, ARGUMENT, w -> w.become(0, force, 5, 2));
        }
    }

    static void promise9GuardIsFrom0To20() {
        for (int guard : new int[] {0, 1, 19, 20}) {
            Warren warren = Given.PAIR.get();
            check.due("become(0, 7, " + guard + ", 2)", warren.become(0, 7, guard, 2), 5);
            check.due("of(0, 5)", warren.of(0, 5), guard);
        }
        for (int guard : Given.outside(0, 20)) {
            check.refused("become(0, 7, " + guard + ", 2)", Given.PAIR, ARGUMENT, w -> w.become(0, 7, guard, 2));
        }
    }

    static void promise9SpeedIsFrom1To4() {
        for (int speed = 1; speed <= 4; speed++) {
            Warren warren = Given.PAIR.get();
            check.due("become(0, 7, 5, " + speed + ")", warren.become(0, 7, 5, speed), 5);
            check.due("of(0, 6)", warren.of(0, 6), speed);
        }
        for (int speed : Given.outside(1, 4)) {
            check.refused("become(0, 7, 5, " + speed + ")", Given.PAIR, ARGUMENT, w -> w.become(0, 7, 5, speed));
        }
    }

    static void promise9NoSuchBeingComesFirst() {
        for (int being : new int[] {LOW, -1, 2, 10, HIGH}) {
            check.refused("no force", Given.PAIR, INDEX, w -> w.become(being, -1, 5, 2));
            check.refused("no guard", Given.PAIR, INDEX, w -> w.become(being, 5, 21, 2));
            check.refused("no speed", Given.PAIR, INDEX, w -> w.become(being, 5, 5, 0));
        }
    }

    static void promise9AnswersTheForceBefore() {
        Warren warren = Given.PAIR.get();
        int before = 5;
        for (int force : new int[] {0, 20, 20, 1, 5, 0}) {
            check.due("become(1, " + force + ", 3, 3)", warren.become(1, force, 3, 3), before);
            before = force;
        }
    }

    static void promise9AllElseIsAsItWas() {
        for (int being = 0; being < 10; being++) {
            Warren warren = Given.FULL.get();
            Warren before = Given.FULL.get();
            warren.become(being, 11, 13, 3);
            for (int other = 0; other < 10; other++) {
                for (int what = 0; what < 10; what++) {
                    int kept = before.of(other, what);
                    int due = other != being || what < 4 || what > 6 ? kept : new int[] {11, 13, 3}[what - 4];
                    check.due("of(" + other + ", " + what + ")", warren.of(other, what), due);
                }
                dueEffect("of " + other, warren, other, being % 5, before.effect(other, being % 5, false),
                        before.effect(other, being % 5, true));
            }
        }
    }

    static void promise9OneThatIsDeadBecomesToo() {
        Warren warren = Given.ALL_DEAD.get();
        check.due("become(0, 9, 8, 4)", warren.become(0, 9, 8, 4), 5);
        dueOf("dead", warren, 0, 0, -1, 0, 3, 9, 8, 4, 4, 6, 1);
        check.due("it stays dead", warren.many(3), -1);
    }

    static void promise9SpeedCountsFromTheNextAction() {
        Warren warren = hall();
        warren.come(0, at(5, 5), 9);
        warren.act(0);
        warren.become(0, 5, 2, 1);
        check.due("TIME at once", warren.of(0, 8), 6);
        warren.act(0);
        check.due("TIME behind an action", warren.of(0, 8), 18);
    }

    static void promise9ForceAndGuardCountFromTheNextHit() {
        Warren warren = Given.PAIR.get();
        check.due("before", warren.hit(0, 1), 3);
        warren.become(0, 20, 2, 2);
        check.due("with a FORCE of 20", warren.hit(0, 1), 18);
        warren.become(1, 5, 20, 2);
        check.due("against a GUARD of 20", warren.hit(0, 1), 1);
    }

    // ---- 10: lay

    static void promise10BeingIsOneThatCame() {
        for (Given given : Given.values()) {
            for (int being : Given.outside(0, given.beings - 1)) {
                check.refused("lay(" + being + ", 1, 1, 1)", given, INDEX, w -> w.lay(being, 1, 1, 1));
            }
        }
        check.due("the first one", Given.PAIR.get().lay(0, 1, 1, 1), 1);
        check.due("the last one", Given.PAIR.get().lay(1, 1, 1, 1), 1);
    }

    static void promise10EffectIsFrom0To4() {
        for (int effect = 0; effect <= 4; effect++) {
            check.due("lay(0, " + effect + ", 4, 1)", Given.PAIR.get().lay(0, effect, 4, 1), 4);
        }
        for (int effect : Given.outside(0, 4)) {
            check.refused("lay(0, " + effect + ", 1, 1)", Given.PAIR, ARGUMENT, w -> w.lay(0, effect, 1, 1));
        }
    }

    static void promise10StackIsFrom1To9() {
        for (int stack = 1; stack <= 9; stack++) {
            check.due("lay(0, 0, " + stack + ", 1)", Given.PAIR.get().lay(0, 0, stack, 1), stack);
        }
        for (int stack : Given.outside(1, 9)) {
            check.refused("lay(0, 0, " + stack + ", 1)", Given.PAIR, ARGUMENT, w -> w.lay(0, 0, stack, 1));
            check.refused("lay(0, 0, " + stack + ", 1)", Given.FULL, ARGUMENT, w -> w.lay(0, 0, stack, 1));
        }
    }

    static void promise10TurnsAreFrom1To20() {
        for (int turns = 1; turns <= 20; turns++) {
            Warren warren = Given.PAIR.get();
            warren.lay(0, 0, 1, turns);
            check.due("TURNS behind lay(0, 0, 1, " + turns + ")", warren.effect(0, 0, true), turns);
        }
        for (int turns : Given.outside(1, 20)) {
            check.refused("lay(0, 0, 1, " + turns + ")", Given.PAIR, ARGUMENT, w -> w.lay(0, 0, 1, turns));
            check.refused("lay(0, 0, 1, " + turns + ")", Given.FULL, ARGUMENT, w -> w.lay(0, 0, 1, turns));
        }
    }

    static void promise10NoSuchBeingComesFirst() {
        for (int being : new int[] {LOW, -1, 2, 10, HIGH}) {
            check.refused("no effect", Given.ALL_DEAD, INDEX, w -> w.lay(being, 5, 1, 1));
            check.refused("no stack", Given.ALL_DEAD, INDEX, w -> w.lay(being, 0, 0, 1));
            check.refused("no turns", Given.ALL_DEAD, INDEX, w -> w.lay(being, 0, 1, 21));
        }
    }

    static void promise10NoSuchEffectStackOrTurnsComesAheadOfTheDead() {
        for (int being = 0; being < 2; being++) {
            int who = being;
            check.refused("no effect", Given.ALL_DEAD, ARGUMENT, w -> w.lay(who, 5, 1, 1));
            check.refused("no effect", Given.ALL_DEAD, ARGUMENT, w -> w.lay(who, -1, 1, 1));
            check.refused("no stack", Given.ALL_DEAD, ARGUMENT, w -> w.lay(who, 0, 0, 1));
            check.refused("no stack", Given.ALL_DEAD, ARGUMENT, w -> w.lay(who, 0, 10, 1));
            check.refused("no turns", Given.ALL_DEAD, ARGUMENT, w -> w.lay(who, 0, 1, 0));
            check.refused("no turns", Given.ALL_DEAD, ARGUMENT, w -> w.lay(who, 0, 1, 21));
        }
    }

    static void promise10NotOnOneThatIsDead() {
        for (int effect = 0; effect < 5; effect++) {
            int which = effect;
            check.refused("on a dead one", Given.SIDE_0_DEAD, STATE, w -> w.lay(0, which, 1, 1));
            check.refused("on a dead one", Given.ALL_DEAD, STATE, w -> w.lay(1, which, 9, 20));
        }
        check.due("on one that is not", Given.SIDE_0_DEAD.get().lay(1, 0, 1, 1), 1);
    }

    static void promise10TheStackIsAddedUpTo9() {
        for (int before = 1; before <= 9; before++) {
            for (int stack = 1; stack <= 9; stack++) {
                Warren warren = Given.PAIR.get();
                warren.lay(0, 3, before, 5);
                check.due(before + " and " + stack, warren.lay(0, 3, stack, 5), Math.min(before + stack, 9));
                check.due("effect()", warren.effect(0, 3, false), Math.min(before + stack, 9));
            }
        }
    }

    static void promise10TheTurnsAreTheGreaterOfBoth() {
        for (int before : new int[] {1, 2, 10, 19, 20}) {
            for (int turns : new int[] {1, 2, 10, 19, 20}) {
                Warren warren = Given.PAIR.get();
                warren.lay(0, 3, 1, before);
                warren.lay(0, 3, 1, turns);
                check.due(before + " and " + turns, warren.effect(0, 3, true), Math.max(before, turns));
            }
        }
    }

    static void promise10AtAStackOf9TheTurnsGrowStill() {
        Warren warren = Given.PAIR.get();
        warren.lay(0, 1, 9, 2);
        check.due("9 and 1", warren.lay(0, 1, 1, 20), 9);
        check.due("TURNS", warren.effect(0, 1, true), 20);
        check.due("at 9 and 20", Given.FULL.get().lay(5, 4, 9, 20), 9);
    }

    static void promise10TheOtherEffectsAndBeingsStay() {
        for (int effect = 0; effect < 5; effect++) {
            Warren warren = hall();
            for (int being = 0; being < 10; being++) {
                warren.come(being % 2, at(1 + being, 4), 9);
            }
            warren.lay(4, effect, 3, 7);
            for (int being = 0; being < 10; being++) {
                for (int other = 0; other < 5; other++) {
                    boolean isIt = being == 4 && other == effect;
                    dueEffect("of " + being, warren, being, other, isIt ? 3 : 0, isIt ? 7 : 0);
                }
            }
        }
    }

    static void promise10NothingElseChanges() {
        for (int effect = 0; effect < 5; effect++) {
            Warren warren = Given.PAIR.get();
            Warren before = Given.PAIR.get();
            warren.lay(0, effect, 9, 20);
            for (int being = 0; being < 2; being++) {
                for (int what = 0; what < 10; what++) {
                    check.due("of(" + being + ", " + what + ")", warren.of(being, what), before.of(being, what));
                }
            }
            for (int what = 0; what <= 8; what++) {
                check.due("many(" + what + ")", warren.many(what), before.many(what));
            }
        }
    }

    // ---- 11: of

    static void promise11BeingIsOneThatCame() {
        for (Given given : Given.values()) {
            for (int being : Given.outside(0, given.beings - 1)) {
                check.refused("of(" + being + ", 0)", given, INDEX, w -> w.of(being, 0));
            }
        }
        check.due("the first one", Given.FULL.get().of(0, 1), at(2, 2));
        check.due("the last one", Given.FULL.get().of(9, 1), at(11, 5));
    }

    static void promise11WhatIsFrom0To9() {
        Warren warren = Given.PAIR.get();
        dueOf("of all", warren, 1, 1, at(7, 4), 22, 25, 5, 2, 2, 3, 12, 0);
        for (int being = 0; being < 10; being += 9) {
            int who = being;
            for (int what : Given.outside(0, 9)) {
                check.refused("of(" + being + ", " + what + ")", Given.FULL, ARGUMENT, w -> w.of(who, what));
            }
        }
    }

    static void promise11NoSuchBeingComesFirst() {
        for (int being : new int[] {LOW, -1, 2, 10, HIGH}) {
            for (int what : new int[] {LOW, -1, 10, HIGH}) {
                check.refused("of(" + being + ", " + what + ")", Given.PAIR, INDEX, w -> w.of(being, what));
            }
        }
    }

    static void promise11LeastAndMost() {
        Warren warren = hall();
        warren.come(0, 17, 1);
        warren.come(1, 142, 60);
        warren.become(0, 0, 0, 1);
        warren.become(1, 20, 20, 4);
        dueOf("the least", warren, 0, 0, 17, 1, 1, 0, 0, 1, 3, 0, 0);
        dueOf("the most", warren, 1, 1, 142, 60, 60, 20, 20, 4, 3, 0, 0);
    }

    static void promise11ManaIsFrom0To9() {
        Warren warren = hall();
        warren.come(0, at(5, 5), 9);
        warren.act(6);
        check.due("the least MANA", warren.of(0, 7), 0);
        for (int wait = 1; wait <= 11; wait++) {
            warren.act(0);
            check.due("MANA behind " + wait, warren.of(0, 7), Math.min(wait, 9));
        }
    }

    static void promise11TimeGrowsOn() {
        Warren warren = hall();
        warren.come(0, at(5, 5), 9);
        warren.become(0, 5, 2, 1);
        for (int i = 0; i < 300; i++) {
            if (i % 20 == 0) {
                warren.lay(0, 4, 9, 20);
            }
            warren.act(0);
        }
        check.due("TIME, SLOW all the time", warren.of(0, 8), 300 * 24);
    }

    static void promise11AfraidBelowAThird() {
        for (int most : new int[] {1, 2, 3, 4, 5, 6, 7, 29, 30, 31, 58, 59, 60}) {
            int third = most / 3;
            for (int life = Math.max(1, third - 1); life <= Math.min(most, third + 2); life++) {
                Warren warren = withLife(life, most);
                check.due("LIFE", warren.of(0, 2), life);
                check.due("AFRAID with " + life + " of " + most, warren.of(0, 9), 3 * life < most ? 1 : 0);
            }
        }
        check.due("with 20 of 60", withLife(20, 60).of(0, 9), 0);
        check.due("with 19 of 60", withLife(19, 60).of(0, 9), 1);
        check.due("with 1 of 3", withLife(1, 3).of(0, 9), 0);
        check.due("with 1 of 4", withLife(1, 4).of(0, 9), 1);
    }

    static void promise11NoMoreAfraidAsItHeals() {
        Warren warren = withLife(9, 30);
        check.due("AFRAID", warren.of(0, 9), 1);
        warren.lay(0, 1, 1, 1);
        warren.act(0);
        check.due("with 10 of 30", warren.of(0, 9), 0);
    }

    static void promise11OneThatIsDead() {
        dueOf("with a MOST LIFE of 1", withLife(0, 1), 0, 0, -1, 0, 1, 5, 2, 2, 4, 6, 1);
        dueOf("with a MOST LIFE of 60", withLife(0, 60), 0, 0, -1, 0, 60, 5, 2, 2, 9, 42, 1);
        Warren hit = hall();
        hit.come(1, at(5, 5), 9);
        hit.come(0, at(6, 5), 3);
        hit.act(2);
        dueOf("by a HIT", hit, 1, 0, -1, 0, 3, 5, 2, 2, 3, 0, 1);
    }

    static void promise11AskingChangesNothing() {
        for (Given given : Given.values()) {
            check.leaves("of()", given, BeingsEdgesTest::askOf);
        }
    }

    private static void askOf(Warren warren) {
        for (int being = 0; being < warren.many(0); being++) {
            for (int what = 0; what <= 9; what++) {
                warren.of(being, what);
            }
        }
    }

    // ---- 12: effect

    static void promise12BeingIsOneThatCame() {
        for (Given given : Given.values()) {
            for (int being : Given.outside(0, given.beings - 1)) {
                check.refused("effect(" + being + ", 0, true)", given, INDEX, w -> w.effect(being, 0, true));
                check.refused("effect(" + being + ", 0, false)", given, INDEX, w -> w.effect(being, 0, false));
            }
        }
    }

    static void promise12EffectIsFrom0To4() {
        for (int effect = 0; effect <= 4; effect++) {
            dueEffect("the last one", Given.FULL.get(), 9, effect, 9, 20);
        }
        for (int effect : Given.outside(0, 4)) {
            check.refused("effect(0, " + effect + ", true)", Given.FULL, ARGUMENT, w -> w.effect(0, effect, true));
            check.refused("effect(9, " + effect + ", false)", Given.FULL, ARGUMENT, w -> w.effect(9, effect, false));
        }
    }

    static void promise12NoSuchBeingComesFirst() {
        for (int being : new int[] {LOW, -1, 2, 10, HIGH}) {
            for (int effect : new int[] {LOW, -1, 5, HIGH}) {
                check.refused("effect(" + being + ", " + effect + ")", Given.PAIR, INDEX,
                        w -> w.effect(being, effect, true));
            }
        }
    }

    static void promise12ItsTurnsOrItsStack() {
        for (int effect = 0; effect < 5; effect++) {
            Warren warren = Given.PAIR.get();
            warren.lay(0, effect, 2, 13);
            check.due("isTurns", warren.effect(0, effect, true), 13);
            check.due("not isTurns", warren.effect(0, effect, false), 2);
        }
    }

    static void promise12OneThatItHasNotIs0() {
        dueNoEffects("it came", Given.SIDE_0_DEAD.get(), 1);
        Warren warren = hall();
        warren.come(0, at(5, 5), 60);
        for (int effect = 0; effect < 5; effect++) {
            warren.lay(0, effect, 9, 1);
        }
        warren.act(0);
        dueNoEffects("all are gone", warren, 0);
    }

    static void promise12ItLastsAsManyActionsAsTurns() {
        for (int effect = 1; effect < 5; effect++) {
            Warren warren = hall();
            warren.come(0, at(5, 5), 60);
            warren.lay(0, effect, 7, 20);
            for (int left = 20; left >= 1; left--) {
                dueEffect("with " + left, warren, 0, effect, 7, left);
                warren.act(0);
            }
            dueEffect("behind 20", warren, 0, effect, 0, 0);
        }
    }

    static void promise12OneThatIsDeadKeepsThem() {
        Warren warren = Given.SIDE_0_DEAD.get();
        dueEffect("it died by its POISON", warren, 0, 0, 4, 2);
        warren.act(0);
        warren.act(0);
        dueEffect("behind actions of another one", warren, 0, 0, 4, 2);
    }

    static void promise12AskingChangesNothing() {
        for (Given given : Given.values()) {
            check.leaves("effect()", given, BeingsEdgesTest::askEffect);
        }
    }

    private static void askEffect(Warren warren) {
        for (int being = 0; being < warren.many(0); being++) {
            for (int effect = 0; effect < 5; effect++) {
                warren.effect(being, effect, true);
                warren.effect(being, effect, false);
            }
        }
    }

    // ---- 13: many

    private static void dueMany(Given given, int... want) {
        Warren warren = given.get();
        for (int what = 0; what < want.length; what++) {
            check.due(given + ": many(" + what + ")", warren.many(what), want[what]);
        }
    }

    static void promise13WhatIsFrom0To8() {
        check.due("many(0)", Given.FULL.get().many(0), 10);
        check.due("many(8)", Given.FULL.get().many(8), 5);
        for (Given given : Given.values()) {
            for (int what : Given.outside(0, 8)) {
                check.refused("many(" + what + ")", given, ARGUMENT, w -> w.many(what));
            }
        }
    }

    static void promise13WithoutBeings() {
        dueMany(Given.NEW, 0, 0, 0, -1, 0, 0, 0, 0, 0);
        dueMany(Given.HALL, 0, 0, 0, -1, 0, 0, 0, 0, 0);
    }

    static void promise13WithoutASide() {
        dueMany(Given.ONE_SIDE, 2, 0, 2, 0, 0, 0, 0);
    }

    static void promise13WithASideThatIsDead() {
        dueMany(Given.SIDE_0_DEAD, 2, 0, 1, 1, 1, 0, 120, 150, 1);
    }

    static void promise13WhenAllAreDead() {
        dueMany(Given.ALL_DEAD, 2, 0, 0, -1, 2, 0, 120, 150, 1);
    }

    static void promise13With10BeingsAnd5Games() {
        dueMany(Given.FULL, 10, 5, 5, 1, 61, 0, 160, 160, 5);
    }

    static void promise13ActionsThatWereRefusedDoNotCount() {
        Warren warren = hall();
        warren.come(0, 17, 9);
        check.refused("act(1)", warren, STATE, () -> warren.act(1));
        check.refused("act(8)", warren, ARGUMENT, () -> warren.act(8));
        check.due("many(4)", warren.many(4), 0);
        warren.act(0);
        check.due("many(4) behind act(0)", warren.many(4), 1);
    }

    static void promise13ActionsAndHitsOfFollowCount() {
        Warren warren = hall();
        warren.come(0, at(5, 5), 60);
        warren.come(1, at(6, 5), 60);
        for (int done = 0; done < 6; done++) {
            check.due("many(4)", warren.many(4), done);
            check.due("many(5)", warren.many(5), done);
            warren.follow(1);
        }
    }

    static void promise13WhatWouldBeDoesNotCount() {
        Warren warren = hall();
        warren.come(0, at(5, 5), 60);
        warren.come(1, at(6, 5), 60);
        warren.hit(0, 1);
        warren.ahead(40);
        check.due("many(4)", warren.many(4), 0);
        check.due("many(5)", warren.many(5), 0);
    }

    static void promise13ALoadBringsBackAllButTheGames() {
        Warren warren = Given.FULL.get();
        Warren before = Given.FULL.get();
        warren.load(0);
        int[] due = {0, 0, 0, -1, 0, 0, 0, 0, 5};
        for (int what = 0; what < due.length; what++) {
            check.due("many(" + what + ") of an empty game", warren.many(what), due[what]);
        }
        warren.load(4);
        for (int what = 0; what < due.length; what++) {
            check.due("many(" + what + ") of a full one", warren.many(what), before.many(what));
        }
    }

    static void promise13CellsThatBothKnowCountForBoth() {
        Warren warren = new Warren();
        warren.dig(5, 5, 2, 1);
        warren.come(0, at(5, 5), 9);
        int first = warren.many(6);
        warren.come(0, at(6, 5), 9);
        int both = warren.many(6);
        check.due("as many as it SEES", first, cellsSeenFrom(warren, at(5, 5)));
        check.due("more by another one of the side", both > first, true);
        check.due("none of the other side", warren.many(7), 0);
        int[] known = new int[160];
        Arrays.setAll(known, cell -> warren.knows(0, cell) ? 1 : 0);
        check.due("as many as knows() tells", both, Arrays.stream(known).sum());
    }

    private static int cellsSeenFrom(Warren warren, int from) {
        int count = 0;
        for (int cell = 0; cell < 160; cell++) {
            count += warren.sees(from, cell) ? 1 : 0;
        }
        return count;
    }

    static void promise13AskingChangesNothing() {
        for (Given given : Given.values()) {
            check.leaves("many()", given, BeingsEdgesTest::askMany);
        }
    }

    private static void askMany(Warren warren) {
        for (int what = 0; what <= 8; what++) {
            warren.many(what);
            warren.many(what);
        }
    }
}
