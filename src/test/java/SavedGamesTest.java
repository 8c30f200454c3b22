/** Promises 20 and 21: saved games. */
public final class SavedGamesTest {
    private static final Class<?> INDEX = IndexOutOfBoundsException.class;
    private static final Class<?> STATE = IllegalStateException.class;

    private static final Check check = new Check("SavedGamesTest");

    public static void main(String[] args) {
        Cases.run(SavedGamesTest.class, check, 20, 21);
    }

    private static int at(int x, int y) {
        return y * 16 + x;
    }

    private static Warren hall() {
        Warren warren = new Warren();
        warren.dig(1, 1, 14, 8);
        return warren;
    }

    /** The checksum but for how many games are saved, which load() leaves as it is. */
    private static long withGames(Warren warren, int games, Warren like) {
        for (int i = like.many(8); i < games; i++) {
            like.save();
        }
        check.due("20: as many games", warren.many(8), like.many(8));
        return like.digest();
    }

    private static Warren started() {
        Warren warren = hall();
        warren.set(at(6, 6), 2);
        warren.set(at(7, 6), 3);
        warren.come(0, at(4, 4), 20);
        warren.come(1, at(8, 4), 25);
        warren.lay(1, 2, 3, 9);
        warren.follow(7);
        return warren;
    }

    static void promise20Save() {
        Warren warren = started();
        for (int game = 0; game < 5; game++) {
            check.due("20: many(8)", warren.many(8), game);
            check.due("20: save()", warren.save(), game);
            long want = withGames(warren, game + 1, started());
            check.due("20: save() changes nothing else", warren.digest(), want);
        }
        check.due("20: many(8)", warren.many(8), 5);
        check.refused("20: a 6th save()", warren, STATE, warren::save);
        warren.load(2);
        check.refused("20: a 6th save() behind a load", warren, STATE, warren::save);
        check.due("20: an empty game", new Warren().save(), 0);
    }

    static void promise21Load() {
        Warren warren = started();
        int actions = warren.many(4);
        int hits = warren.many(5);
        check.due("21: there were hits", hits > 0, true);
        warren.save();
        long due = warren.digest();
        warren.dig(6, 6, 2, 1);
        warren.set(at(2, 2), 1);
        warren.set(at(3, 2), 2);
        warren.become(0, 20, 20, 4);
        warren.become(1, 1, 1, 1);
        warren.lay(0, 4, 9, 9);
        warren.lay(1, 0, 2, 3);
        warren.come(0, at(13, 8), 60);
        warren.come(1, at(1, 8), 60);
        warren.follow(20);
        check.due("21: ACTIONS then", warren.many(4) > actions, true);
        check.due("21: KNOWN then", warren.knows(0, at(14, 9)), true);
        check.due("21: load(0)", warren.load(0), 2);
        check.due("21: all as it was", warren.digest(), due);
        check.due("21: ACTIONS as they were", warren.many(4), actions);
        check.due("21: HITS as they were", warren.many(5), hits);
        check.due("21: KNOWN as it was", warren.knows(0, at(14, 9)), false);
        check.due("21: load(0) at once", warren.load(0), 2);
        check.due("21: all as it was still", warren.digest(), due);
        Warren other = started();
        other.save();
        warren.follow(9);
        other.follow(9);
        check.due("21: it goes on alike", warren.digest(), other.digest());
        warren.load(0);
        check.due("21: loads it once more", warren.digest(), due);
    }

    static void promise21BeingsThatCameLater() {
        Warren warren = hall();
        warren.come(0, at(4, 4), 20);
        warren.save();
        for (int being = 1; being < 10; being++) {
            warren.come(being % 2, at(being, 1), 10 + being);
            warren.become(being, 9, 9, 4);
            warren.lay(being, being % 5, 9, 20);
        }
        warren.follow(12);
        check.due("21: load(0)", warren.load(0), 1);
        check.due("21: many(0)", warren.many(0), 1);
        check.due("21: many(2)", warren.many(2), 0);
        check.refused("21: of(1, 0)", warren, INDEX, () -> warren.of(1, 0));
        check.refused("21: hit(0, 1)", warren, INDEX, () -> warren.hit(0, 1));
        for (int x = 1; x < 10; x++) {
            check.due("21: on(" + x + ", 1)", warren.on(at(x, 1)), -1);
        }
        check.due("21: danger to 0", warren.danger(0, at(4, 4)), 0);
        check.due("21: another one comes", warren.come(1, at(3, 1), 7), 1);
        int[] due = {1, at(3, 1), 7, 7, 5, 2, 2, 3, 0, 0};
        for (int what = 0; what < due.length; what++) {
            check.due("21: of(1, " + what + ")", warren.of(1, what), due[what]);
        }
        for (int effect = 0; effect < 5; effect++) {
            check.due("21: stack of " + effect, warren.effect(1, effect, false), 0);
            check.due("21: turns of " + effect, warren.effect(1, effect, true), 0);
        }
        for (int being = 2; being < 10; being++) {
            check.due("21: come " + being, warren.come(0, at(being, 3), 5), being);
        }
        check.refused("21: an 11th", warren, STATE, () -> warren.come(0, at(12, 3), 5));
    }

    static void promise21SavedGamesStay() {
        Warren warren = hall();
        long[] due = new long[5];
        warren.save();
        warren.come(0, at(2, 2), 20);
        warren.save();
        warren.come(1, at(9, 2), 20);
        warren.save();
        warren.follow(5);
        warren.save();
        warren.follow(5);
        warren.save();
        int[] alive = {0, 1, 2, 2, 2};
        for (int game = 0; game < 5; game++) {
            check.due("21: load(" + game + ")", warren.load(game), alive[game]);
            due[game] = warren.digest();
            check.due("21: many(8)", warren.many(8), 5);
            warren.set(at(4, 4), 1 + game % 3);
            warren.follow(3);
        }
        check.due("21: games 3 and 4 are not the same", due[3] != due[4], true);
        for (int game = 4; game >= 0; game--) {
            warren.load(game);
            check.due("21: game " + game + " stays", warren.digest(), due[game]);
        }
        warren.load(2);
        warren.follow(5);
        check.due("21: the game 3 comes of the game 2", warren.digest(), due[3]);
        warren.follow(5);
        check.due("21: and the game 4 of that", warren.digest(), due[4]);
    }

    static void promise21LoadOfTheDead() {
        Warren warren = hall();
        warren.come(0, at(2, 2), 3);
        warren.come(1, at(3, 2), 9);
        warren.come(1, at(9, 2), 9);
        warren.save();
        warren.lay(0, 0, 3, 2);
        warren.act(0);
        warren.save();
        check.due("21: load(0), all alive", warren.load(0), 3);
        check.due("21: on its cell again", warren.on(at(2, 2)), 0);
        check.due("21: load(1), one dead", warren.load(1), 2);
        check.due("21: CELL of the dead one", warren.of(0, 1), -1);
        check.due("21: its POISON", warren.effect(0, 0, true), 1);
    }

    static void promise21LoadRefuses() {
        Warren warren = started();
        check.refused("21: load(0) without one", warren, INDEX, () -> warren.load(0));
        warren.save();
        warren.save();
        for (int game : new int[] {Integer.MIN_VALUE, -1, 2, 5, Integer.MAX_VALUE}) {
            check.refused("21: load(" + game + ")", warren, INDEX, () -> warren.load(game));
        }
    }
}
