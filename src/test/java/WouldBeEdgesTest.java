import java.util.function.Supplier;

/** Promises 22 to 26, what would be: each sentence that names an edge, in a case of its own. */
public final class WouldBeEdgesTest {
    private static final Class<?> ARGUMENT = IllegalArgumentException.class;
    private static final Class<?> INDEX = IndexOutOfBoundsException.class;
    private static final int HIGH = Integer.MAX_VALUE;
    private static final int LOW = Integer.MIN_VALUE;
    private static final int POISON = 0;
    private static final int STRONG = 2;
    private static final int SHIELD = 3;

    private static final Check check = new Check("WouldBeEdgesTest");

    public static void main(String[] args) {
        Cases.run(WouldBeEdgesTest.class, check, 22, 26);
    }

    private static int at(int x, int y) {
        return Given.at(x, y);
    }

    private static Warren hall() {
        return Given.hall();
    }

    private static Warren sideBySide(int life, int otherLife) {
        Warren warren = hall();
        warren.come(0, at(5, 5), life);
        warren.come(1, at(6, 5), otherLife);
        return warren;
    }

    // ---- 22: hit

    static void promise22BothAreBeingsThatCame() {
        for (Given given : Given.values()) {
            for (int being : Given.outside(0, given.beings - 1)) {
                check.refused("hit(" + being + ", 0)", given, INDEX, w -> w.hit(being, 0));
                check.refused("hit(0, " + being + ")", given, INDEX, w -> w.hit(0, being));
                check.refused("hit(" + being + ", " + being + ")", given, INDEX, w -> w.hit(being, being));
            }
        }
        check.due("the first one and the last one", Given.FULL.get().hit(0, 9), 1);
        check.due("the last one and the first one", Given.FULL.get().hit(9, 0), 18);
    }

    static void promise22ForceAndStrongLessGuardAndShieldBut1AtTheLeast() {
        int[][] due = {
            {0, 0, 0, 0, 1}, {1, 0, 0, 0, 1}, {2, 0, 0, 0, 2}, {0, 0, 20, 9, 1}, {20, 0, 20, 0, 1}, {20, 1, 20, 0, 1},
            {20, 2, 20, 0, 2}, {20, 9, 0, 0, 29}, {20, 9, 20, 9, 1}, {20, 9, 20, 7, 2}, {0, 9, 0, 0, 9},
            {9, 0, 0, 9, 1},
        };
        for (int[] a : due) {
            Warren warren = sideBySide(60, 60);
            warren.become(0, a[0], 20, 2);
            warren.become(1, 20, a[2], 2);
            warren.lay(0, SHIELD, 9, 9);
            warren.lay(1, STRONG, 9, 9);
            if (a[1] > 0) {
                warren.lay(0, STRONG, a[1], 1);
            }
            if (a[3] > 0) {
                warren.lay(1, SHIELD, a[3], 1);
            }
            check.due(a[0] + " + " + a[1] + " - " + a[2] + " - " + a[3], warren.hit(0, 1), a[4]);
        }
    }

    static void promise22AlsoIfItHasNotSoMuchLife() {
        for (int life = 1; life <= 4; life++) {
            check.due("LIFE " + life, sideBySide(9, life).hit(0, 1), 3);
        }
    }

    static void promise22AlsoIfBothAreOfOneSide() {
        Warren warren = Given.FULL.get();
        check.due("hit(0, 2)", warren.hit(0, 2), 1);
        check.due("hit(8, 0)", warren.hit(8, 0), 16);
        check.due("hit(9, 1)", warren.hit(9, 1), 17);
        check.due("of ONE_SIDE", Given.ONE_SIDE.get().hit(0, 1), 3);
    }

    static void promise22AlsoIfBothAreTheSame() {
        Warren warren = sideBySide(9, 9);
        check.due("5 less 2", warren.hit(0, 0), 3);
        warren.become(0, 0, 20, 1);
        check.due("0 less 20", warren.hit(0, 0), 1);
        warren.become(0, 20, 0, 1);
        warren.lay(0, STRONG, 9, 1);
        check.due("29 less 0", warren.hit(0, 0), 29);
        warren.lay(0, SHIELD, 4, 1);
        check.due("29 less 4", warren.hit(0, 0), 25);
    }

    static void promise22FromWhereverTheyAre() {
        Warren warren = hall();
        warren.come(0, 17, 9);
        warren.come(1, 142, 9);
        warren.set(18, 1);
        warren.set(33, 1);
        check.due("out of sight", warren.hit(0, 1), 3);
        check.due("out of sight", warren.hit(1, 0), 3);
    }

    static void promise22WithADeadOneIs0() {
        Warren one = Given.SIDE_0_DEAD.get();
        check.due("of a dead one", one.hit(0, 1), 0);
        check.due("on a dead one", one.hit(1, 0), 0);
        check.due("of a dead one on itself", one.hit(0, 0), 0);
        check.due("of the other one on itself", one.hit(1, 1), 3);
        Warren all = Given.ALL_DEAD.get();
        check.due("both dead", all.hit(0, 1), 0);
        check.due("both dead", all.hit(1, 0), 0);
    }

    static void promise22IsWhatActTakes() {
        for (int force = 0; force <= 20; force += 4) {
            for (int guard = 0; guard <= 20; guard += 5) {
                Warren warren = sideBySide(60, 60);
                warren.become(0, force, 0, 2);
                warren.become(1, 0, guard, 2);
                int would = warren.hit(0, 1);
                check.due("act(2)", warren.act(2), would);
            }
        }
    }

    static void promise22AskingChangesNothing() {
        for (Given given : Given.values()) {
            check.leaves("hit()", given, WouldBeEdgesTest::askHit);
        }
    }

    private static void askHit(Warren warren) {
        for (int being = 0; being < warren.many(0); being++) {
            for (int other = being % 2; other < warren.many(0); other += 2) {
                warren.hit(being, other);
            }
        }
    }

    // ---- 23: ahead

    private static int lead(Warren warren) {
        int lead = 0;
        for (int being = 0; being < warren.many(0); being++) {
            lead += warren.of(being, 0) == 0 ? warren.of(being, 2) : -warren.of(being, 2);
        }
        return lead;
    }

    static void promise23TurnsAreFrom1To40() {
        for (Given given : Given.values()) {
            for (int turns : Given.outside(1, 40)) {
                check.refused("ahead(" + turns + ")", given, ARGUMENT, w -> w.ahead(turns));
            }
        }
    }

    static void promise23IsWhatFollowBringsAbout() {
        for (Given given : Given.values()) {
            for (int turns = 1; turns <= 40; turns++) {
                Warren warren = given.get();
                int ahead = warren.ahead(turns);
                warren.follow(turns);
                check.due(given + ": ahead(" + turns + ")", ahead, lead(warren));
            }
        }
    }

    static void promise23WithoutBothSidesItIsAsItIs() {
        for (int turns : new int[] {1, 40}) {
            check.due("nobody", Given.NEW.get().ahead(turns), 0);
            check.due("nobody in a hall", Given.HALL.get().ahead(turns), 0);
            check.due("the side 1 alone", Given.ONE_SIDE.get().ahead(turns), -27);
            check.due("the side 0 is dead", Given.SIDE_0_DEAD.get().ahead(turns), -25);
            check.due("all are dead", Given.ALL_DEAD.get().ahead(turns), 0);
            Warren warren = hall();
            warren.come(0, 17, 60);
            check.due("the side 0 alone", warren.ahead(turns), 60);
        }
    }

    static void promise23TheGreatestLeadOfEither() {
        for (int side = 0; side <= 1; side++) {
            Warren warren = hall();
            for (int being = 0; being < 10; being++) {
                warren.come(side, 17 + being, 60);
            }
            check.due("10 of the side " + side, warren.ahead(40), side == 0 ? 600 : -600);
        }
    }

    static void promise23TheDeadHaveNoLife() {
        Warren warren = sideBySide(9, 3);
        check.due("1 is hit dead", warren.ahead(1), 9);
        Warren poison = sideBySide(3, 9);
        poison.lay(0, POISON, 9, 1);
        check.due("0 dies behind its HIT", poison.ahead(40), -6);
    }

    static void promise23NothingIsChanged() {
        for (Given given : Given.values()) {
            check.leaves("ahead(1)", given, w -> w.ahead(1));
            check.leaves("ahead(40)", given, w -> w.ahead(40));
            check.leaves("ahead() of all", given, WouldBeEdgesTest::askAhead);
        }
    }

    private static void askAhead(Warren warren) {
        for (int turns = 1; turns <= 40; turns += 3) {
            warren.ahead(turns);
        }
    }

    static void promise23NorAreDoorsOpenedOrCellsKnown() {
        Warren warren = new Warren();
        warren.dig(5, 5, 4, 1);
        warren.set(at(6, 5), 2);
        warren.come(0, at(5, 5), 20);
        warren.come(1, at(8, 5), 20);
        int known = warren.many(6);
        warren.ahead(40);
        check.due("the door", warren.cell(at(6, 5)), 2);
        check.due("many(6)", warren.many(6), known);
        check.due("knows(0, (8, 5))", warren.knows(0, at(8, 5)), false);
        check.due("where 0 is", warren.on(at(5, 5)), 0);
        check.due("many(4)", warren.many(4), 0);
        check.due("many(5)", warren.many(5), 0);
        warren.follow(40);
        check.due("the door behind follow(40)", warren.cell(at(6, 5)), 0);
        check.due("many(5) behind follow(40)", warren.many(5) > 0, true);
    }

    static void promise23BehindWhateverWasDoneInBetween() {
        Warren warren = Given.PAIR.get();
        for (int i = 0; i < 12; i++) {
            int ahead = warren.ahead(1);
            warren.follow(1);
            check.due("behind follow(1)", lead(warren), ahead);
            if (i == 5) {
                warren.load(0);
            }
            if (i == 8) {
                warren.come(0, at(1, 8), 33);
            }
        }
    }

    // ---- 24: danger

    static void promise24SideIs0Or1() {
        Warren warren = Given.PAIR.get();
        check.due("danger(0) at 0", warren.danger(0, warren.of(0, 1)), 1);
        check.due("danger(1) at 0", warren.danger(1, warren.of(0, 1)), 1);
        for (Given given : Given.values()) {
            for (int side : Given.outside(0, 1)) {
                check.refused("danger(" + side + ", 17)", given, ARGUMENT, w -> w.danger(side, 17));
            }
        }
    }

    static void promise24CellIsFrom0To159() {
        check.due("danger(0, 0)", Given.ONE_SIDE.get().danger(0, 0), 2);
        check.due("danger(0, 159)", Given.ONE_SIDE.get().danger(0, 159), 0);
        for (Given given : Given.values()) {
            for (int cell : Given.outside(0, 159)) {
                check.refused("danger(0, " + cell + ")", given, INDEX, w -> w.danger(0, cell));
            }
        }
    }

    static void promise24NoSuchSideComesAheadOfNoSuchCell() {
        for (int side : new int[] {LOW, -1, 2, HIGH}) {
            for (int cell : new int[] {LOW, -1, 160, HIGH}) {
                check.refused("danger(" + side + ", " + cell + ")", Given.PAIR, ARGUMENT, w -> w.danger(side, cell));
            }
        }
    }

    static void promise24WithoutTheOtherSideItIs0() {
        for (Given given : new Given[] {Given.NEW, Given.HALL, Given.ALL_DEAD}) {
            Warren warren = given.get();
            for (int cell = 0; cell < 160; cell++) {
                check.due(given + ": danger(0, " + cell + ")", warren.danger(0, cell), 0);
                check.due(given + ": danger(1, " + cell + ")", warren.danger(1, cell), 0);
            }
        }
        for (int cell = 0; cell < 160; cell++) {
            check.due("danger(1, " + cell + ")", Given.ONE_SIDE.get().danger(1, cell), 0);
            check.due("danger(1, " + cell + "), the side 0 dead", Given.SIDE_0_DEAD.get().danger(1, cell), 0);
        }
    }

    static void promise24IsHowManySeeIt() {
        for (Given given : new Given[] {Given.ONE_SIDE, Given.PAIR, Given.SIDE_0_DEAD, Given.FULL}) {
            for (int cell = 0; cell < 160; cell++) {
                Warren warren = given.get();
                int[] due = new int[2];
                for (int being = 0; being < given.beings; being++) {
                    int from = warren.of(being, 1);
                    if (from >= 0 && warren.sees(from, cell)) {
                        due[1 - warren.of(being, 0)]++;
                    }
                }
                check.due(given + ": danger(0, " + cell + ")", warren.danger(0, cell), due[0]);
                check.due(given + ": danger(1, " + cell + ")", warren.danger(1, cell), due[1]);
            }
        }
    }

    static void promise24Of10() {
        Warren warren = hall();
        for (int being = 0; being < 10; being++) {
            check.due("of " + being, warren.danger(1, at(5, 5)), being);
            warren.come(0, at(1 + being, 4), 1);
        }
        check.due("of 10", warren.danger(1, at(5, 5)), 10);
        check.due("to their own side", warren.danger(0, at(5, 5)), 0);
        check.due("where one of them is", warren.danger(1, at(5, 4)), 10);
        check.due("at the rim", warren.danger(1, at(5, 0)), 10);
        check.due("8 off from the first one", warren.danger(1, at(9, 4)), 9);
    }

    static void promise24SevenOffAndNoMore() {
        Warren warren = hall();
        warren.come(1, at(1, 1), 9);
        check.due("7 columns off", warren.danger(0, at(8, 1)), 1);
        check.due("8 columns off", warren.danger(0, at(9, 1)), 0);
        check.due("7 rows off", warren.danger(0, at(1, 8)), 1);
        check.due("8 rows off", warren.danger(0, at(1, 9)), 0);
        check.due("its own CELL", warren.danger(0, at(1, 1)), 1);
    }

    static void promise24PastNoWallAndNoDoor() {
        for (int kind = 0; kind <= 3; kind++) {
            Warren warren = hall();
            warren.come(1, at(5, 5), 9);
            warren.set(at(6, 5), kind);
            check.due("at a " + kind, warren.danger(0, at(6, 5)), 1);
            check.due("past a " + kind, warren.danger(0, at(7, 5)), kind == 1 || kind == 2 ? 0 : 1);
        }
    }

    static void promise24AskingChangesNothing() {
        for (Given given : Given.values()) {
            check.leaves("danger()", given, WouldBeEdgesTest::askDanger);
        }
    }

    private static void askDanger(Warren warren) {
        for (int cell = 0; cell < 160; cell += 3) {
            warren.danger(cell % 2, cell);
        }
    }

    // ---- 25: meanLife

    static void promise25WithoutAnyItIs0() {
        for (Given given : new Given[] {Given.NEW, Given.HALL, Given.ALL_DEAD}) {
            check.dueMean(given + ": meanLife()", given.get().meanLife(), 0.0);
        }
    }

    static void promise25OfOneAlone() {
        for (int life : new int[] {1, 59, 60}) {
            Warren warren = hall();
            warren.come(1, 17, life);
            check.dueMean("LIFE " + life, warren.meanLife(), life);
        }
    }

    static void promise25TheDeadDoNotCount() {
        check.dueMean("one of two", Given.SIDE_0_DEAD.get().meanLife(), 25.0);
        Warren warren = sideBySide(3, 3);
        warren.act(2);
        check.dueMean("0 alone", warren.meanLife(), 3.0);
    }

    static void promise25ItIsNotCut() {
        Warren warren = hall();
        int sum = 0;
        for (int being = 0; being < 10; being++) {
            int life = 1 + being * being % 7;
            warren.come(being % 2, 17 + being, life);
            sum += life;
            check.dueMean("of " + (being + 1), warren.meanLife(), (double) sum / (being + 1));
        }
        check.dueMean("1 and 2", mean(1, 2), 1.5);
        check.dueMean("59 and 60", mean(59, 60), 59.5);
        check.dueMean("1 and 60", mean(1, 60), 30.5);
    }

    private static double mean(int life, int otherLife) {
        return sideBySide(life, otherLife).meanLife();
    }

    static void promise25AsLifeIsNow() {
        Warren warren = sideBySide(20, 20);
        warren.act(2);
        check.dueMean("behind a HIT of 3", warren.meanLife(), 18.5);
        check.dueMean("20 and 7 of one side", Given.ONE_SIDE.get().meanLife(), 13.5);
        check.dueMean("10 with 60", Given.FULL.get().meanLife(), 60.0);
    }

    static void promise25AskingChangesNothing() {
        for (Given given : Given.values()) {
            check.leaves("meanLife()", given, Warren::meanLife);
        }
    }

    // ---- 26: digest

    private static void dueDigest(String when, Supplier<Warren> made) {
        check.due(when + ": digest()", made.get().digest(), Checksum.due(made));
    }

    static void promise26OfEveryState() {
        for (Given given : Given.values()) {
            dueDigest(given.toString(), given);
        }
    }

    static void promise26OfANewOne() {
        long d = 58090;
        int[] counts = {0, 0, 0, -1, 0, 0, 0, 0, 0};
        for (int count : counts) {
            d = d * 31 + count;
        }
        for (int cell = 0; cell < 160; cell++) {
            d = d * 31 + 1;
        }
        check.due("digest()", new Warren().digest(), d);
    }

    static void promise26WithoutATurnTheDangerIsLeftOut() {
        long d = 58090;
        int[] counts = {1, 0, 0, -1, 1, 0, 12, 0, 0};
        for (int count : counts) {
            d = d * 31 + count;
        }
        for (int cell = 0; cell < 160; cell++) {
            d = d * 31 + (cell == 17 || cell == 18 || cell == 19 ? 0 : 1);
        }
        int[] being = {0, -1, 0, 4, 5, 2, 2, 4, 6, 1};
        for (int value : being) {
            d = d * 31 + value;
        }
        int[] effects = {7, 2, 0, 0, 0, 0, 0, 0, 0, 0};
        for (int value : effects) {
            d = d * 31 + value;
        }
        int[] plans = {-1, -1, -1000, -1000, -1000, -1000, -1000, -1000, -1000, -1000};
        for (int value : plans) {
            d = d * 31 + value;
        }
        Warren warren = new Warren();
        warren.dig(1, 1, 3, 1);
        warren.come(0, 17, 4);
        warren.lay(0, POISON, 7, 3);
        warren.act(0);
        check.due("one, and it is dead", warren.digest(), d);
    }

    static void promise26TheDangerIsThatOfTheSide0() {
        check.due("the TURN of PAIR is of the side 1", Given.PAIR.get().of(Given.PAIR.get().many(3), 0), 1);
        dueDigest("of the side 1", Given.PAIR);
        check.due("the TURN of 3 is of the side 0", three().of(three().many(3), 0), 0);
        dueDigest("of the side 0", WouldBeEdgesTest::three);
    }

    private static Warren three() {
        Warren warren = sideBySide(9, 9);
        warren.come(1, at(5, 7), 9);
        return warren;
    }

    static void promise26OfEachActionOfALongFight() {
        for (Given given : new Given[] {Given.PAIR, Given.FULL}) {
            for (int turns = 1; turns <= 40; turns++) {
                int done = turns;
                dueDigest(given + " behind " + turns, () -> followed(given, done));
            }
        }
    }

    private static Warren followed(Given given, int turns) {
        Warren warren = given.get();
        warren.follow(turns);
        return warren;
    }

    static void promise26EachOfItsNumbersCounts() {
        long before = Given.PAIR.get().digest();
        Warren map = Given.PAIR.get();
        map.set(142, 3);
        check.due("another CELL", map.digest() == before, false);
        Warren stack = Given.PAIR.get();
        stack.lay(1, STRONG, 1, 1);
        check.due("another STACK", stack.digest() == before, false);
        Warren speed = Given.PAIR.get();
        speed.become(1, 5, 2, 3);
        check.due("another SPEED", speed.digest() == before, false);
        Warren game = Given.PAIR.get();
        game.save();
        check.due("another game", game.digest() == before, false);
    }

    static void promise26AskingChangesNothing() {
        for (Given given : Given.values()) {
            check.leaves("digest()", given, WouldBeEdgesTest::askDigest);
        }
    }

    private static void askDigest(Warren warren) {
        long first = warren.digest();
        check.due("digest() again", warren.digest(), first);
    }
}
