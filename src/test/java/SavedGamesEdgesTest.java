/** Promises 20 and 21, saved games: each sentence that names an edge, in a case of its own. */
public final class SavedGamesEdgesTest {
    private static final Class<?> INDEX = IndexOutOfBoundsException.class;
    private static final Class<?> STATE = IllegalStateException.class;

    private static final Check check = new Check("SavedGamesEdgesTest");

    public static void main(String[] args) {
        Cases.run(SavedGamesEdgesTest.class, check, 20, 21);
    }

    private static int at(int x, int y) {
        return Given.at(x, y);
    }

    private static Warren hall() {
        return Given.hall();
    }

    private static Warren sideBySide() {
        Warren warren = hall();
        warren.come(0, at(5, 5), 20);
        warren.come(1, at(6, 5), 20);
        return warren;
    }

    /** Changes all that can be changed, whoever there is. */
    private static void turnUpsideDown(Warren warren) {
        warren.follow(7);
        for (int being = 0; being < warren.many(0); being++) {
            warren.become(being, 20, 0, 4);
            if (warren.of(being, 2) > 0) {
                for (int effect = 0; effect < 5; effect++) {
                    warren.lay(being, effect, 9, 3);
                }
            }
        }
        if (warren.many(0) < 10 && warren.cell(at(13, 8)) == 0) {
            warren.come(1, at(13, 8), 60);
        }
        for (int i = 0; i < 6 && warren.many(3) >= 0; i++) {
            warren.act(0);
        }
        for (int cell = 17; cell < 143; cell += 3) {
            if (cell % 16 % 15 != 0 && warren.on(cell) == -1) {
                warren.set(cell, (cell + 1) % 4);
            }
        }
    }

    // ---- 20: save

    static void promise20TheFirstIs0AndTheLastIs4() {
        Warren warren = sideBySide();
        for (int game = 0; game <= 4; game++) {
            check.due("many(8)", warren.many(8), game);
            check.due("save()", warren.save(), game);
        }
        check.due("many(8)", warren.many(8), 5);
    }

    static void promise20At5NoneIsSavedMore() {
        check.refused("a 6th", Given.FULL, STATE, Warren::save);
        Warren warren = new Warren();
        for (int game = 0; game < 5; game++) {
            warren.save();
        }
        check.refused("a 6th of a new one", warren, STATE, warren::save);
        warren.load(0);
        check.refused("a 6th behind a load", warren, STATE, warren::save);
    }

    static void promise20OnlyHowManyGamesChanges() {
        Given[] states = {Given.NEW, Given.HALL, Given.ONE_SIDE, Given.PAIR, Given.SIDE_0_DEAD, Given.ALL_DEAD};
        for (Given given : states) {
            Warren warren = given.get();
            Warren before = given.get();
            warren.save();
            for (int what = 0; what < 8; what++) {
                check.due(given + ": many(" + what + ")", warren.many(what), before.many(what));
            }
            check.due(given + ": many(8)", warren.many(8), before.many(8) + 1);
            before.save();
            check.same(given + ": save() as another one", warren, before);
            check.sameKnown(given + ": save() as another one", 0, warren, before);
        }
    }

    static void promise20AnEmptyGame() {
        Warren warren = new Warren();
        warren.save();
        warren.dig(1, 1, 14, 8);
        warren.come(0, at(8, 8), 9);
        turnUpsideDown(warren);
        check.due("load(0)", warren.load(0), 0);
        Warren same = new Warren();
        same.save();
        check.same("as a new one", warren, same);
        check.sameKnown("as a new one", 0, warren, same);
    }

    static void promise20TheSavedMapDoesNotFollowThePlayedOne() {
        Warren warren = hall();
        warren.set(at(6, 5), 2);
        warren.come(0, at(5, 5), 9);
        warren.save();
        warren.act(2);
        warren.set(at(8, 8), 3);
        warren.dig(1, 1, 14, 8);
        warren.load(0);
        check.due("the door is shut again", warren.cell(at(6, 5)), 2);
        check.due("what was FLOOR is FLOOR", warren.cell(at(8, 8)), 0);
    }

    static void promise20TheSavedBeingsDoNotFollowThePlayedOnes() {
        Warren warren = Given.PAIR.get();
        int[][] due = new int[2][10];
        for (int being = 0; being < 2; being++) {
            for (int what = 0; what < 10; what++) {
                due[being][what] = warren.of(being, what);
            }
        }
        int game = warren.save();
        turnUpsideDown(warren);
        warren.load(game);
        for (int being = 0; being < 2; being++) {
            for (int what = 0; what < 10; what++) {
                check.due("of(" + being + ", " + what + ")", warren.of(being, what), due[being][what]);
            }
        }
    }

    static void promise20TheSavedEffectsDoNotFollowThePlayedOnes() {
        for (int effect = 0; effect < 5; effect++) {
            Warren warren = sideBySide();
            warren.lay(0, effect, 3, 6);
            warren.save();
            turnUpsideDown(warren);
            warren.load(0);
            for (int being = 0; being < 2; being++) {
                for (int other = 0; other < 5; other++) {
                    boolean isIt = being == 0 && other == effect;
                    check.due("STACK of " + other, warren.effect(being, other, false), isIt ? 3 : 0);
                    check.due("TURNS of " + other, warren.effect(being, other, true), isIt ? 6 : 0);
                }
            }
        }
    }

    static void promise20WhatIsKnownDoesNotFollow() {
        Warren warren = hall();
        warren.come(0, at(2, 5), 9);
        warren.save();
        int known = warren.many(6);
        warren.act(2);
        warren.come(1, at(14, 8), 9);
        warren.load(0);
        check.due("many(6)", warren.many(6), known);
        check.due("many(7)", warren.many(7), 0);
        check.due("knows(0, (10, 5))", warren.knows(0, at(10, 5)), false);
    }

    static void promise20ActionsAndHitsToo() {
        Warren warren = sideBySide();
        for (int i = 0; i < 3; i++) {
            warren.act(i == 0 ? 2 : 0);
        }
        warren.save();
        warren.follow(5);
        check.due("many(4) then", warren.many(4), 8);
        check.due("many(5) then", warren.many(5) > 1, true);
        warren.load(0);
        check.due("many(4)", warren.many(4), 3);
        check.due("many(5)", warren.many(5), 1);
    }

    static void promise20BehindALoadTheNumbersGoOn() {
        Warren warren = hall();
        check.due("save()", warren.save(), 0);
        warren.come(0, at(5, 5), 9);
        check.due("save() with one", warren.save(), 1);
        warren.load(0);
        check.due("save() behind load(0)", warren.save(), 2);
        check.due("load(1)", warren.load(1), 1);
        check.due("load(2)", warren.load(2), 0);
        check.due("many(8)", warren.many(8), 3);
    }

    static void promise20AWarrenHasGamesOfItsOwn() {
        Warren warren = hall();
        Warren other = sideBySide();
        warren.save();
        check.due("many(8) of another one", other.many(8), 0);
        check.due("save() of another one", other.save(), 0);
        check.due("load(0)", warren.load(0), 0);
        check.due("load(0) of another one", other.load(0), 2);
    }

    // ---- 21: load

    static void promise21GameIsOneThatIsSaved() {
        for (Given given : Given.values()) {
            int games = given.get().many(8);
            for (int game : Given.outside(0, games - 1)) {
                check.refused("load(" + game + ")", given, INDEX, w -> w.load(game));
            }
        }
        int[] alive = {0, 10, 10, 10, 10};
        Warren warren = Given.FULL.get();
        for (int game = 0; game <= 4; game++) {
            check.due("load(" + game + ")", warren.load(game), alive[game]);
        }
    }

    static void promise21AnswersHowManyAreNotDead() {
        check.due("before one died", Given.SIDE_0_DEAD.get().load(0), 2);
        check.due("all dead", Given.ALL_DEAD.get().load(0), 0);
        Warren warren = Given.SIDE_0_DEAD.get();
        int game = warren.save();
        check.due("one dead", warren.load(game), 1);
        check.due("of one side", Given.ONE_SIDE.get().load(0), 2);
        check.due("nobody", Given.FULL.get().load(0), 0);
        check.due("10", Given.FULL.get().load(4), 10);
    }

    static void promise21AllIsAsItWas() {
        for (Given given : Given.values()) {
            Warren warren = given.get();
            Warren same = given.get();
            int game = warren.many(8) == 5 ? 4 : warren.save();
            if (same.many(8) < 5) {
                same.save();
            }
            turnUpsideDown(warren);
            warren.load(game);
            same.load(game);
            check.due(given + ": digest()", warren.digest(), same.digest());
            for (int cell = 0; cell < 160; cell += 2) {
                check.due(given + ": knows(0, " + cell + ")", warren.knows(0, cell), same.knows(0, cell));
                check.due(given + ": on(" + cell + ")", warren.on(cell), same.on(cell));
            }
        }
    }

    static void promise21BeingsThatCameLaterAreNoMore() {
        for (int kept = 0; kept <= 9; kept++) {
            Warren warren = hall();
            for (int being = 0; being < 10; being++) {
                if (being == kept) {
                    warren.save();
                }
                warren.come(being % 2, at(1 + being, 1 + being % 8), 20);
            }
            check.due("load(0)", warren.load(0), kept);
            check.due("many(0)", warren.many(0), kept);
            check.due("many(1)", warren.many(1), (kept + 1) / 2);
            check.due("many(2)", warren.many(2), kept / 2);
            for (int being = kept; being < 10; being++) {
                dueNoMore(warren, being);
            }
        }
    }

    private static void dueNoMore(Warren warren, int being) {
        check.due("on() where " + being + " was", warren.on(at(1 + being, 1 + being % 8)), -1);
        check.refused("of(" + being + ", 1)", warren, INDEX, () -> warren.of(being, 1));
        check.refused("become(" + being + ")", warren, INDEX, () -> warren.become(being, 1, 1, 1));
        check.refused("lay(" + being + ")", warren, INDEX, () -> warren.lay(being, 1, 1, 1));
        check.refused("effect(" + being + ")", warren, INDEX, () -> warren.effect(being, 1, true));
        check.refused("target(" + being + ")", warren, INDEX, () -> warren.target(being));
        check.refused("way(" + being + ")", warren, INDEX, () -> warren.way(being, 17));
        check.refused("worth(" + being + ")", warren, INDEX, () -> warren.worth(being, 0));
        check.refused("plan(" + being + ")", warren, INDEX, () -> warren.plan(being));
        check.refused("hit(" + being + ")", warren, INDEX, () -> warren.hit(being, being));
    }

    static void promise21WhoIsNoMoreStandsInNobodysWay() {
        Warren warren = new Warren();
        warren.dig(1, 1, 5, 1);
        warren.come(0, at(1, 1), 9);
        warren.save();
        warren.come(1, at(2, 1), 9);
        warren.load(0);
        check.due("the way past it", warren.way(0, at(5, 1)), 4);
        check.due("no TARGET", warren.target(0), -1);
        check.due("no danger", warren.danger(0, at(1, 1)), 0);
        check.due("no PREY", warren.worth(0, 2), 0);
        check.due("a GO, no HIT", warren.act(2), 0);
        check.due("where it is", warren.of(0, 1), at(2, 1));
    }

    static void promise21WhoComesThenHasNothingOfThem() {
        Warren warren = hall();
        warren.save();
        warren.come(1, at(5, 5), 60);
        warren.become(0, 20, 20, 1);
        for (int effect = 0; effect < 5; effect++) {
            warren.lay(0, effect, 9, 20);
        }
        warren.act(0);
        warren.load(0);
        warren.come(0, at(6, 6), 7);
        int[] due = {0, at(6, 6), 7, 7, 5, 2, 2, 3, 0, 0};
        for (int what = 0; what < due.length; what++) {
            check.due("of(0, " + what + ")", warren.of(0, what), due[what]);
        }
        for (int effect = 0; effect < 5; effect++) {
            check.due("STACK of " + effect, warren.effect(0, effect, false), 0);
            check.due("TURNS of " + effect, warren.effect(0, effect, true), 0);
        }
    }

    static void promise21OneThatDiedLivesAgain() {
        Warren warren = Given.SIDE_0_DEAD.get();
        check.due("load(0)", warren.load(0), 2);
        check.due("LIFE", warren.of(0, 2), 3);
        check.due("CELL", warren.of(0, 1), at(4, 4));
        check.due("on(68)", warren.on(at(4, 4)), 0);
        check.due("its TURN", warren.many(3), 0);
        check.due("lay()", warren.lay(0, 0, 1, 1), 5);
    }

    static void promise21OneThatWasDeadIsDeadAgain() {
        Warren dead = Given.SIDE_0_DEAD.get();
        int game = dead.save();
        dead.load(0);
        check.due("it lives", dead.of(0, 2), 3);
        dead.load(game);
        check.due("it is dead again", dead.of(0, 2), 0);
        check.refused("lay() on it", dead, STATE, () -> dead.lay(0, 0, 1, 1));
    }

    static void promise21AllSavedGamesStay() {
        Warren warren = Given.FULL.get();
        long[] due = new long[5];
        for (int game = 0; game < 5; game++) {
            warren.load(game);
            due[game] = warren.digest();
            warren.follow(3);
            check.due("many(8)", warren.many(8), 5);
        }
        int[] order = {4, 0, 3, 3, 1, 2, 0, 4, 4};
        for (int game : order) {
            warren.load(game);
            check.due("game " + game, warren.digest(), due[game]);
            warren.follow(2);
        }
    }

    static void promise21AGameThatIsLoadedTwice() {
        Warren warren = Given.PAIR.get();
        int game = warren.save();
        long due = warren.digest();
        for (int i = 0; i < 3; i++) {
            warren.load(game);
            check.due("the time " + i, warren.digest(), due);
            warren.load(game);
            check.due("at once again", warren.digest(), due);
            if (i < 2) {
                warren.follow(5);
                warren.set(at(9, 8), 3 - i);
            }
        }
    }

    static void promise21OneThatIsLoadedAndSavedAgainIsAnother() {
        Warren warren = sideBySide();
        warren.save();
        warren.load(0);
        warren.become(0, 9, 9, 3);
        check.due("save()", warren.save(), 1);
        warren.load(0);
        check.due("FORCE of the first one", warren.of(0, 4), 5);
        warren.load(1);
        check.due("FORCE of the second one", warren.of(0, 4), 9);
    }

    static void promise21ItGoesOnAsItDid() {
        for (Given given : new Given[] {Given.PAIR, Given.FULL}) {
            Warren warren = given.get();
            int game = warren.many(8) == 5 ? 4 : warren.save();
            warren.load(game);
            int done = warren.follow(30);
            long due = warren.digest();
            warren.load(game);
            check.due(given + ": ahead() behind load()", warren.ahead(30), lead(warren, game));
            check.due(given + ": follow(30)", warren.follow(30), done);
            check.due(given + ": digest()", warren.digest(), due);
        }
    }

    private static int lead(Warren warren, int game) {
        warren.follow(30);
        int lead = 0;
        for (int being = 0; being < warren.many(0); being++) {
            lead += warren.of(being, 0) == 0 ? warren.of(being, 2) : -warren.of(being, 2);
        }
        warren.load(game);
        return lead;
    }

    static void promise21LoadedAtOnceNothingChanges() {
        for (Given given : new Given[] {Given.HALL, Given.ONE_SIDE, Given.PAIR, Given.SIDE_0_DEAD, Given.ALL_DEAD}) {
            Warren warren = given.get();
            int game = warren.save();
            long due = warren.digest();
            check.due(given + ": load()", warren.load(game), warren.many(1) + warren.many(2));
            check.due(given + ": digest()", warren.digest(), due);
        }
    }
}
