import java.util.Arrays;

/** Promises 1 to 7, the map: each sentence that names an edge, in a case of its own. */
public final class MapEdgesTest {
    private static final Class<?> ARGUMENT = IllegalArgumentException.class;
    private static final Class<?> INDEX = IndexOutOfBoundsException.class;
    private static final Class<?> STATE = IllegalStateException.class;
    private static final int HIGH = Integer.MAX_VALUE;
    private static final int LOW = Integer.MIN_VALUE;

    private static final Check check = new Check("MapEdgesTest");

    public static void main(String[] args) {
        Cases.run(MapEdgesTest.class, check, 1, 7);
    }

    private static int at(int x, int y) {
        return Given.at(x, y);
    }

    private static boolean isRim(int x, int y) {
        return x == 0 || x == 15 || y == 0 || y == 9;
    }

    private static boolean isRim(int cell) {
        return isRim(cell % 16, cell / 16);
    }

    private static Warren hall() {
        return Given.hall();
    }

    // ---- 1: a new object

    static void promise1EveryCellIsWall() {
        Warren warren = new Warren();
        for (int cell = 0; cell < 160; cell++) {
            check.due("cell(" + cell + ")", warren.cell(cell), 1);
        }
    }

    static void promise1NobodyIsOnAnyCell() {
        Warren warren = new Warren();
        for (int cell = 0; cell < 160; cell++) {
            check.due("on(" + cell + ")", warren.on(cell), -1);
        }
    }

    static void promise1NoSideKnowsAnyCell() {
        Warren warren = new Warren();
        for (int cell = 0; cell < 160; cell++) {
            check.due("knows(0, " + cell + ")", warren.knows(0, cell), false);
            check.due("knows(1, " + cell + ")", warren.knows(1, cell), false);
        }
    }

    static void promise1AllCountsAreEmpty() {
        Warren warren = new Warren();
        int[] due = {0, 0, 0, -1, 0, 0, 0, 0, 0};
        for (int what = 0; what < due.length; what++) {
            check.due("many(" + what + ")", warren.many(what), due[what]);
        }
    }

    static void promise1NoBeingCanBeAsked() {
        check.refused("become(0, 5, 2, 2)", Given.NEW, INDEX, w -> w.become(0, 5, 2, 2));
        check.refused("lay(0, 0, 1, 1)", Given.NEW, INDEX, w -> w.lay(0, 0, 1, 1));
        check.refused("of(0, 0)", Given.NEW, INDEX, w -> w.of(0, 0));
        check.refused("effect(0, 0, true)", Given.NEW, INDEX, w -> w.effect(0, 0, true));
        check.refused("target(0)", Given.NEW, INDEX, w -> w.target(0));
        check.refused("way(0, 17)", Given.NEW, INDEX, w -> w.way(0, 17));
        check.refused("worth(0, 0)", Given.NEW, INDEX, w -> w.worth(0, 0));
        check.refused("plan(0)", Given.NEW, INDEX, w -> w.plan(0));
        check.refused("hit(0, 0)", Given.NEW, INDEX, w -> w.hit(0, 0));
    }

    static void promise1NobodyActs() {
        for (int action = 0; action < 8; action++) {
            int which = action;
            check.refused("act(" + action + ")", Given.NEW, STATE, w -> w.act(which));
        }
        check.due("follow(40)", new Warren().follow(40), 0);
    }

    static void promise1NoGameIsSaved() {
        check.refused("load(0)", Given.NEW, INDEX, w -> w.load(0));
        check.due("save()", new Warren().save(), 0);
    }

    static void promise1NothingWouldBe() {
        Warren warren = new Warren();
        check.due("ahead(40)", warren.ahead(40), 0);
        check.due("danger(0, 17)", warren.danger(0, 17), 0);
        check.due("danger(1, 17)", warren.danger(1, 17), 0);
        check.dueMean("meanLife()", warren.meanLife(), 0.0);
    }

    static void promise1ObjectsShareNothing() {
        Warren first = new Warren();
        first.dig(1, 1, 14, 8);
        Warren second = new Warren();
        for (int being = 0; being < 10; being++) {
            first.come(being % 2, at(1 + being, 1), 60);
        }
        first.save();
        first.follow(40);
        check.same("a new one beside another one", second, new Warren());
        for (int side = 0; side < 2; side++) {
            check.sameKnown("a new one beside another one", side, second, new Warren());
        }
    }

    // ---- 2: dig

    static void promise2XIsFrom0To15() {
        for (int x = 0; x <= 15; x++) {
            check.due("dig(" + x + ", 1, 1, 1)", new Warren().dig(x, 1, 1, 1), isRim(x, 1) ? 0 : 1);
        }
        for (int x : Given.outside(0, 15)) {
            check.refused("dig(" + x + ", 1, 1, 1)", Given.NEW, ARGUMENT, w -> w.dig(x, 1, 1, 1));
        }
    }

    static void promise2YIsFrom0To9() {
        for (int y = 0; y <= 9; y++) {
            check.due("dig(1, " + y + ", 1, 1)", new Warren().dig(1, y, 1, 1), isRim(1, y) ? 0 : 1);
        }
        for (int y : Given.outside(0, 9)) {
            check.refused("dig(1, " + y + ", 1, 1)", Given.NEW, ARGUMENT, w -> w.dig(1, y, 1, 1));
        }
    }

    static void promise2WidthIsFrom1To16LessX() {
        for (int x = 0; x <= 15; x++) {
            int first = x;
            check.due("the least width at " + x, new Warren().dig(x, 4, 1, 1), isRim(x, 4) ? 0 : 1);
            check.due("the most width at " + x, new Warren().dig(x, 4, 16 - x, 1), Math.min(14, 15 - x));
            for (int width : Given.outside(1, 16 - x)) {
                check.refused("dig(" + x + ", 4, " + width + ", 1)", Given.NEW, ARGUMENT,
                        w -> w.dig(first, 4, width, 1));
            }
        }
    }

    static void promise2HeightIsFrom1To10LessY() {
        for (int y = 0; y <= 9; y++) {
            int first = y;
            check.due("the least height at " + y, new Warren().dig(4, y, 1, 1), isRim(4, y) ? 0 : 1);
            check.due("the most height at " + y, new Warren().dig(4, y, 1, 10 - y), Math.min(8, 9 - y));
            for (int height : Given.outside(1, 10 - y)) {
                check.refused("dig(4, " + y + ", 1, " + height + ")", Given.NEW, ARGUMENT,
                        w -> w.dig(4, first, 1, height));
            }
        }
    }

    static void promise2NoSumOfItsArgumentsWraps() {
        int[][] wrong = {
            {1, 1, HIGH, 1}, {15, 1, HIGH - 14, 1}, {15, 1, HIGH, 1}, {1, 1, 1, HIGH}, {1, 9, 1, HIGH - 8},
            {HIGH, 1, 1, 1}, {HIGH, 1, LOW, 1}, {LOW, 1, HIGH, 1}, {LOW, 1, LOW, 1}, {-1, 1, 17, 1}, {-1, 1, 1, 1},
            {1, HIGH, 1, 1}, {1, HIGH, 1, LOW}, {1, LOW, 1, HIGH}, {1, LOW, 1, LOW}, {1, -1, 1, 11}, {16, 1, 0, 1},
            {1, 10, 1, 0}, {LOW, LOW, LOW, LOW}, {HIGH, HIGH, HIGH, HIGH}, {LOW + 16, 1, LOW, 1},
        };
        for (int[] a : wrong) {
            check.refused("dig" + Arrays.toString(a), Given.HALL, ARGUMENT, w -> w.dig(a[0], a[1], a[2], a[3]));
        }
    }

    static void promise2RefusesInEveryState() {
        for (Given given : Given.values()) {
            check.refused("dig(-1, 0, 1, 1)", given, ARGUMENT, w -> w.dig(-1, 0, 1, 1));
            check.refused("dig(0, 10, 1, 1)", given, ARGUMENT, w -> w.dig(0, 10, 1, 1));
            check.refused("dig(2, 0, 15, 1)", given, ARGUMENT, w -> w.dig(2, 0, 15, 1));
            check.refused("dig(0, 2, 1, 9)", given, ARGUMENT, w -> w.dig(0, 2, 1, 9));
        }
    }

    /** Every room that there can be, each on a MAP of its own. */
    static void promise2RoomsOfEverySize() {
        for (int x = 0; x <= 15; x++) {
            for (int y = 0; y <= 9; y++) {
                for (int width = 1; width <= 16 - x; width++) {
                    for (int height = 1; height <= 10 - y; height++) {
                        dueRoom(x, y, width, height);
                    }
                }
            }
        }
    }

    private static void dueRoom(int x, int y, int width, int height) {
        Warren warren = new Warren();
        int answer = warren.dig(x, y, width, height);
        int changed = 0;
        boolean isRight = true;
        for (int cell = 0; cell < 160; cell++) {
            int column = cell % 16;
            int row = cell / 16;
            boolean isIn = column >= x && column < x + width && row >= y && row < y + height && !isRim(cell);
            changed += isIn ? 1 : 0;
            isRight &= warren.cell(cell) == (isIn ? 0 : 1);
        }
        check.due("dig(" + x + ", " + y + ", " + width + ", " + height + ")", answer, changed);
        check.due("the MAP behind dig(" + x + ", " + y + ", " + width + ", " + height + ")", isRight, true);
    }

    static void promise2TheRimIsNeverDug() {
        Warren warren = new Warren();
        check.due("the first column", warren.dig(0, 0, 1, 10), 0);
        check.due("the last column", warren.dig(15, 0, 1, 10), 0);
        check.due("the first row", warren.dig(0, 0, 16, 1), 0);
        check.due("the last row", warren.dig(0, 9, 16, 1), 0);
        check.due("all but the rim", warren.dig(0, 0, 16, 10), 112);
        for (int cell = 0; cell < 160; cell++) {
            check.due("cell(" + cell + ")", warren.cell(cell), isRim(cell) ? 1 : 0);
        }
    }

    static void promise2FloorDoesNotBecomeAnotherOne() {
        Warren warren = new Warren();
        check.due("a room", warren.dig(2, 2, 3, 3), 9);
        check.due("the same once more", warren.dig(2, 2, 3, 3), 0);
        check.due("one that lies over it", warren.dig(3, 3, 3, 3), 5);
        check.due("one around both", warren.dig(1, 1, 6, 6), 36 - 14);
    }

    static void promise2WallsDoorsAndWaterBecomeFloor() {
        Warren warren = hall();
        for (int kind = 0; kind <= 3; kind++) {
            warren.set(at(5, 5), kind);
            check.due("dig over a " + kind, warren.dig(5, 5, 1, 1), kind == 0 ? 0 : 1);
            check.due("what was a " + kind, warren.cell(at(5, 5)), 0);
        }
    }

    static void promise2BeingsStayWhereTheyAre() {
        Warren warren = Given.FULL.get();
        warren.set(warren.of(9, 1), 3);
        check.due("dig over 10 beings, one in water", warren.dig(0, 0, 16, 10), 1);
        Warren same = Given.FULL.get();
        for (int being = 0; being < 10; being++) {
            check.due("of(" + being + ", 1)", warren.of(being, 1), same.of(being, 1));
        }
    }

    static void promise2NobodyKnowsMoreByIt() {
        Warren warren = new Warren();
        warren.dig(1, 1, 2, 2);
        warren.come(0, at(1, 1), 9);
        int before = warren.many(6);
        check.due("dig", warren.dig(1, 1, 14, 8), 108);
        check.due("many(6)", warren.many(6), before);
        check.due("many(7)", warren.many(7), 0);
        check.due("knows(0, (5, 5))", warren.knows(0, at(5, 5)), false);
    }

    // ---- 3: set

    static void promise3CellIsFrom0To159() {
        check.due("set(0, 1)", new Warren().set(0, 1), 1);
        check.due("set(159, 1)", new Warren().set(159, 1), 1);
        for (int cell : Given.outside(0, 159)) {
            check.refused("set(" + cell + ", 1)", Given.PAIR, INDEX, w -> w.set(cell, 1));
        }
    }

    static void promise3KindIsFrom0To3() {
        Warren warren = hall();
        for (int kind = 0; kind <= 3; kind++) {
            warren.set(at(5, 5), kind);
            check.due("cell behind set to " + kind, warren.cell(at(5, 5)), kind);
        }
        for (int kind : Given.outside(0, 3)) {
            check.refused("set(85, " + kind + ")", Given.PAIR, ARGUMENT, w -> w.set(at(5, 5), kind));
        }
    }

    static void promise3TheRimTakesWallAlone() {
        for (int cell = 0; cell < 160; cell++) {
            int which = cell;
            if (isRim(cell)) {
                check.due("set(" + cell + ", 1)", hall().set(cell, 1), 1);
                for (int kind : new int[] {-1, 0, 2, 3, 4}) {
                    check.refused("set(" + cell + ", " + kind + ")", Given.HALL, ARGUMENT, w -> w.set(which, kind));
                }
            }
        }
    }

    static void promise3WithinTheRimAllKindsGo() {
        for (int kind = 0; kind <= 3; kind++) {
            Warren warren = hall();
            for (int cell = 0; cell < 160; cell++) {
                if (!isRim(cell)) {
                    check.due("set(" + cell + ", " + kind + ")", warren.set(cell, kind), 0);
                }
            }
            for (int cell = 0; cell < 160; cell++) {
                check.due("cell(" + cell + ")", warren.cell(cell), isRim(cell) ? 1 : kind);
            }
        }
    }

    static void promise3AnswersWhatItWas() {
        Warren warren = hall();
        for (int before = 0; before <= 3; before++) {
            for (int kind = 0; kind <= 3; kind++) {
                warren.set(at(3, 3), before);
                check.due("set from " + before + " to " + kind, warren.set(at(3, 3), kind), before);
                check.due("then it is", warren.cell(at(3, 3)), kind);
            }
        }
    }

    static void promise3NoOtherCellChanges() {
        for (int kind = 1; kind <= 3; kind++) {
            Warren warren = hall();
            warren.set(at(14, 3), kind);
            for (int cell = 0; cell < 160; cell++) {
                int due = cell == at(14, 3) ? kind : isRim(cell) ? 1 : 0;
                check.due("cell(" + cell + ")", warren.cell(cell), due);
            }
        }
    }

    static void promise3NoSuchCellComesAheadOfNoSuchKind() {
        for (int cell : new int[] {LOW, -1, 160, HIGH}) {
            for (int kind : new int[] {LOW, -1, 4, HIGH}) {
                check.refused("set(" + cell + ", " + kind + ")", Given.PAIR, INDEX, w -> w.set(cell, kind));
            }
        }
    }

    static void promise3NoSuchKindComesAheadOfABeing() {
        for (int kind : new int[] {LOW, -1, 4, HIGH}) {
            check.refused("set under 0 to " + kind, Given.PAIR, ARGUMENT, w -> w.set(w.of(0, 1), kind));
        }
    }

    static void promise3UnderABeingNoWallAndNoDoor() {
        for (int being = 0; being < 10; being++) {
            int who = being;
            check.refused("a wall under " + being, Given.FULL, STATE, w -> w.set(w.of(who, 1), 1));
            check.refused("a door under " + being, Given.FULL, STATE, w -> w.set(w.of(who, 1), 2));
        }
    }

    static void promise3UnderABeingFloorAndWaterGo() {
        Warren warren = Given.FULL.get();
        for (int being = 0; being < 10; being++) {
            int cell = warren.of(being, 1);
            check.due("water under " + being, warren.set(cell, 3), 0);
            check.due("water again", warren.set(cell, 3), 3);
            check.due("floor under " + being, warren.set(cell, 0), 3);
            check.due("who is there", warren.on(cell), being);
            check.due("where it is", warren.of(being, 1), cell);
        }
    }

    static void promise3WhereABeingWasAllKindsGo() {
        Warren gone = hall();
        gone.come(0, at(5, 5), 9);
        gone.act(2);
        check.due("a wall where it went from", gone.set(at(5, 5), 1), 0);
        check.refused("a wall where it went to", gone, STATE, () -> gone.set(at(6, 5), 1));
        Warren dead = Given.ALL_DEAD.get();
        check.due("a door where one died", dead.set(at(4, 4), 2), 0);
        check.due("a wall where another one died", dead.set(at(8, 4), 1), 0);
        Warren loaded = hall();
        loaded.save();
        loaded.come(0, at(5, 5), 9);
        loaded.load(0);
        check.due("a wall where one is no more", loaded.set(at(5, 5), 1), 0);
    }

    static void promise3NobodyKnowsMoreByIt() {
        Warren warren = new Warren();
        warren.dig(1, 1, 3, 1);
        warren.set(at(4, 1), 2);
        warren.set(at(5, 1), 0);
        warren.come(0, at(1, 1), 9);
        int before = warren.many(6);
        check.due("the door falls", warren.set(at(4, 1), 0), 2);
        check.due("sees past it", warren.sees(at(1, 1), at(5, 1)), true);
        check.due("knows past it", warren.knows(0, at(5, 1)), false);
        check.due("many(6)", warren.many(6), before);
    }

    static void promise3NobodyKnowsLessByIt() {
        Warren warren = hall();
        warren.come(0, at(5, 5), 9);
        int before = warren.many(6);
        warren.set(at(6, 5), 1);
        warren.set(at(4, 5), 2);
        check.due("many(6)", warren.many(6), before);
        check.due("knows the wall", warren.knows(0, at(6, 5)), true);
        check.due("knows past the wall", warren.knows(0, at(8, 5)), true);
    }

    static void promise3RefusesInEveryState() {
        for (Given given : Given.values()) {
            check.refused("set(-1, 1)", given, INDEX, w -> w.set(-1, 1));
            check.refused("set(160, 1)", given, INDEX, w -> w.set(160, 1));
            check.refused("set(17, 4)", given, ARGUMENT, w -> w.set(17, 4));
            check.refused("set(0, 0)", given, ARGUMENT, w -> w.set(0, 0));
        }
    }

    // ---- 4: cell

    static void promise4CellIsFrom0To159() {
        check.due("cell(0)", hall().cell(0), 1);
        check.due("cell(159)", hall().cell(159), 1);
        for (Given given : Given.values()) {
            for (int cell : Given.outside(0, 159)) {
                check.refused("cell(" + cell + ")", given, INDEX, w -> w.cell(cell));
            }
        }
    }

    static void promise4ItIsRowTimes16AndColumn() {
        for (int y = 1; y <= 8; y++) {
            for (int x = 1; x <= 14; x++) {
                Warren warren = new Warren();
                warren.dig(x, y, 1, 1);
                check.due("cell(" + (16 * y + x) + ")", warren.cell(16 * y + x), 0);
                check.due("the one to the west", warren.cell(16 * y + x - 1), 1);
                check.due("the one to the east", warren.cell(16 * y + x + 1), 1);
            }
        }
    }

    static void promise4AnOpenedDoorIsFloor() {
        Warren warren = hall();
        warren.set(at(6, 5), 2);
        warren.come(0, at(5, 5), 9);
        check.due("shut", warren.cell(at(6, 5)), 2);
        warren.act(2);
        check.due("open", warren.cell(at(6, 5)), 0);
    }

    static void promise4AskingChangesNothing() {
        for (Given given : Given.values()) {
            check.leaves("cell() of all", given, MapEdgesTest::askCells);
        }
    }

    private static void askCells(Warren warren) {
        for (int cell = 0; cell < 160; cell += 3) {
            warren.cell(cell);
        }
    }

    // ---- 5: on

    static void promise5CellIsFrom0To159() {
        check.due("on(0)", hall().on(0), -1);
        check.due("on(159)", hall().on(159), -1);
        for (Given given : Given.values()) {
            for (int cell : Given.outside(0, 159)) {
                check.refused("on(" + cell + ")", given, INDEX, w -> w.on(cell));
            }
        }
    }

    static void promise5NobodyIsOnAnyCellOfAnEmptyMap() {
        for (Given given : new Given[] {Given.NEW, Given.HALL, Given.ALL_DEAD}) {
            Warren warren = given.get();
            for (int cell = 0; cell < 160; cell++) {
                check.due(given + ": on(" + cell + ")", warren.on(cell), -1);
            }
        }
    }

    static void promise5EachOf10IsOnItsOwn() {
        Warren warren = Given.FULL.get();
        int[] due = new int[160];
        Arrays.fill(due, -1);
        for (int being = 0; being < 10; being++) {
            due[warren.of(being, 1)] = being;
        }
        for (int cell = 0; cell < 160; cell++) {
            check.due("on(" + cell + ")", warren.on(cell), due[cell]);
        }
    }

    static void promise5OnTheFirstAndTheLastCellThatOneCanBeOn() {
        Warren warren = hall();
        warren.come(1, 17, 9);
        warren.come(0, 142, 9);
        check.due("on(17)", warren.on(17), 0);
        check.due("on(142)", warren.on(142), 1);
    }

    static void promise5OneThatIsDeadIsOnNone() {
        Warren warren = Given.SIDE_0_DEAD.get();
        check.due("where it died", warren.on(at(4, 4)), -1);
        check.due("where the other one is", warren.on(at(8, 4)), 1);
    }

    static void promise5WhoWentIsWhereItWent() {
        Warren warren = hall();
        warren.come(0, at(5, 5), 9);
        warren.act(3);
        check.due("where it was", warren.on(at(5, 5)), -1);
        check.due("where it is", warren.on(at(5, 6)), 0);
    }

    static void promise5WhoCameLaterIsNoMore() {
        Warren warren = hall();
        warren.save();
        warren.come(0, at(5, 5), 9);
        warren.load(0);
        check.due("on(85)", warren.on(at(5, 5)), -1);
        check.due("another one comes", warren.come(1, at(5, 5), 9), 0);
        check.due("on(85)", warren.on(at(5, 5)), 0);
    }

    static void promise5AskingChangesNothing() {
        for (Given given : Given.values()) {
            check.leaves("on() of all", given, MapEdgesTest::askOn);
        }
    }

    private static void askOn(Warren warren) {
        for (int cell = 0; cell < 160; cell += 3) {
            warren.on(cell);
        }
    }

    // ---- 6: sees

    static void promise6BothCellsAreFrom0To159() {
        check.due("sees(0, 159)", hall().sees(0, 159), false);
        check.due("sees(159, 0)", hall().sees(159, 0), false);
        for (int cell : Given.outside(0, 159)) {
            check.refused("sees(" + cell + ", 17)", Given.PAIR, INDEX, w -> w.sees(cell, 17));
            check.refused("sees(17, " + cell + ")", Given.PAIR, INDEX, w -> w.sees(17, cell));
            check.refused("sees(" + cell + ", " + cell + ")", Given.PAIR, INDEX, w -> w.sees(cell, cell));
        }
        for (Given given : Given.values()) {
            check.refused("sees(-1, 0)", given, INDEX, w -> w.sees(-1, 0));
            check.refused("sees(0, 160)", given, INDEX, w -> w.sees(0, 160));
        }
    }

    static void promise6ACellSeesItself() {
        Warren warren = hall();
        for (int cell = 0; cell < 160; cell++) {
            if (!isRim(cell)) {
                warren.set(cell, cell % 4);
            }
            check.due("sees(" + cell + ", " + cell + ")", warren.sees(cell, cell), true);
        }
    }

    static void promise6ACellSeesThoseNextToIt() {
        Warren solid = new Warren();
        for (int y = 0; y <= 9; y++) {
            for (int x = 0; x <= 15; x++) {
                int right = x < 15 ? x + 1 : x;
                int below = y < 9 ? y + 1 : y;
                dueBothWays(solid, at(x, y), at(right, y), true);
            }
        }
        for (int y = 0; y < 9; y++) {
            dueBothWays(solid, at(4, y), at(4, y + 1), true);
            dueBothWays(solid, at(4, y), at(5, y + 1), true);
            dueBothWays(solid, at(4, y), at(3, y + 1), true);
        }
    }

    private static void dueBothWays(Warren warren, int one, int other, boolean want) {
        check.due("sees(" + one + ", " + other + ")", warren.sees(one, other), want);
        check.due("sees(" + other + ", " + one + ")", warren.sees(other, one), want);
    }

    static void promise6SevenColumnsAreSeenAndEightAreNot() {
        Warren warren = hall();
        for (int x = 1; x <= 14; x++) {
            dueBothWays(warren, at(1, 4), at(x, 4), x <= 8);
            dueBothWays(warren, at(14, 4), at(x, 4), x >= 7);
        }
    }

    static void promise6SevenRowsAreSeenAndEightAreNot() {
        Warren warren = hall();
        for (int y = 0; y <= 9; y++) {
            dueBothWays(warren, at(4, 1), at(4, y), y <= 8);
            dueBothWays(warren, at(4, 8), at(4, y), y >= 1);
        }
    }

    static void promise6TheGreaterOfColumnsAndRowsCounts() {
        Warren warren = hall();
        dueBothWays(warren, at(1, 1), at(8, 8), true);
        dueBothWays(warren, at(8, 1), at(1, 8), true);
        dueBothWays(warren, at(1, 1), at(9, 8), false);
        dueBothWays(warren, at(1, 1), at(8, 2), true);
        dueBothWays(warren, at(1, 1), at(9, 2), false);
        dueBothWays(warren, at(1, 0), at(2, 8), false);
        dueBothWays(warren, at(2, 1), at(1, 8), true);
    }

    static void promise6NoRowRunsOnIntoTheNextOne() {
        Warren warren = hall();
        for (int y = 0; y < 9; y++) {
            dueBothWays(warren, at(15, y), at(0, y + 1), false);
            dueBothWays(warren, at(14, y), at(1, y + 1), false);
        }
    }

    static void promise6TheFirstAndTheLastDoNotCount() {
        int[] kinds = {1, 2};
        for (int kind : kinds) {
            Warren warren = hall();
            warren.set(at(5, 5), kind);
            warren.set(at(8, 5), kind);
            dueBothWays(warren, at(5, 5), at(8, 5), true);
            dueBothWays(warren, at(5, 5), at(9, 5), false);
            dueBothWays(warren, at(4, 5), at(7, 5), false);
        }
        dueBothWays(hall(), at(5, 0), at(12, 0), false);
        dueBothWays(hall(), at(5, 0), at(5, 7), true);
    }

    static void promise6WallsAndDoorsStopAndNothingElse() {
        for (int kind = 0; kind <= 3; kind++) {
            for (int x = 6; x <= 10; x++) {
                Warren warren = hall();
                warren.set(at(x, 5), kind);
                dueBothWays(warren, at(5, 5), at(11, 5), kind == 0 || kind == 3);
            }
        }
        Warren crowd = hall();
        crowd.come(0, at(6, 5), 9);
        crowd.come(1, at(7, 5), 9);
        dueBothWays(crowd, at(5, 5), at(8, 5), true);
    }

    /** Of -1/2 and 1/2 the greater nearest ones are 0 and 1: so it bends to the east and to the south. */
    static void promise6OfTwoNearestTheGreaterOne() {
        int[][] lines = {
            // from, to, and the one between them
            {5, 5, 7, 4, 6, 5}, {5, 5, 7, 6, 6, 6}, {5, 5, 3, 4, 4, 5}, {5, 5, 3, 6, 4, 6},
            {5, 5, 4, 3, 5, 4}, {5, 5, 6, 3, 6, 4}, {5, 5, 4, 7, 5, 6}, {5, 5, 6, 7, 6, 6},
        };
        for (int[] line : lines) {
            for (int y = 4; y <= 6; y++) {
                for (int x = 4; x <= 6; x++) {
                    Warren warren = hall();
                    warren.set(at(x, y), 1);
                    boolean isBetween = x == line[4] && y == line[5];
                    dueBothWays(warren, at(line[0], line[1]), at(line[2], line[3]), !isBetween);
                }
            }
        }
    }

    /** Where a CELL k of the LINE is, k * d / n being added in whole steps of a 2nth. */
    private static int alongTheLine(int from, int d, int k, int n) {
        int doubled = 2 * k * d + n;
        int cut = doubled / (2 * n);
        return from + (doubled % (2 * n) < 0 ? cut - 1 : cut);
    }

    /** For every two CELLS: one wall on the LINE stops, and with nothing else dug than the LINE they see each other. */
    static void promise6EveryLine() {
        for (int one = 0; one < 160; one++) {
            for (int other = 0; other < 160; other++) {
                int dx = other % 16 - one % 16;
                int dy = other / 16 - one / 16;
                int n = Math.max(Math.abs(dx), Math.abs(dy));
                if (n >= 2 && n <= 7) {
                    dueLine(one, other, dx, dy, n);
                }
            }
        }
    }

    private static void dueLine(int one, int other, int dx, int dy, int n) {
        Warren only = new Warren();
        boolean isOnTheRim = false;
        for (int k = 1; k < n; k++) {
            int x = alongTheLine(one % 16, dx, k, n);
            int y = alongTheLine(one / 16, dy, k, n);
            only.dig(x, y, 1, 1);
            isOnTheRim |= isRim(x, y);
            if (!isRim(x, y)) {
                Warren hall = hall();
                hall.set(at(x, y), 1 + k % 2);
                check.due("sees(" + one + ", " + other + ") past " + at(x, y), hall.sees(one, other), false);
            }
        }
        check.due("sees(" + one + ", " + other + ") along its LINE", only.sees(one, other), !isOnTheRim);
    }

    static void promise6AskingChangesNothing() {
        for (Given given : Given.values()) {
            check.leaves("sees()", given, MapEdgesTest::askSees);
        }
    }

    private static void askSees(Warren warren) {
        for (int i = 0; i < 160; i += 2) {
            warren.sees(i, (i * 7 + 3) % 160);
        }
    }

    // ---- 7: knows

    static void promise7SideIs0Or1() {
        check.due("knows(0, 17)", Given.SIDE_0_DEAD.get().knows(0, 17), true);
        check.due("knows(1, 17)", Given.SIDE_0_DEAD.get().knows(1, 17), true);
        for (Given given : Given.values()) {
            for (int side : Given.outside(0, 1)) {
                check.refused("knows(" + side + ", 17)", given, ARGUMENT, w -> w.knows(side, 17));
            }
        }
    }

    static void promise7CellIsFrom0To159() {
        check.due("knows(0, 0)", Given.FULL.get().knows(0, 0), true);
        check.due("knows(1, 159)", Given.FULL.get().knows(1, 159), true);
        for (Given given : Given.values()) {
            for (int cell : Given.outside(0, 159)) {
                check.refused("knows(1, " + cell + ")", given, INDEX, w -> w.knows(1, cell));
            }
        }
    }

    static void promise7NoSuchSideComesAheadOfNoSuchCell() {
        for (int side : new int[] {LOW, -1, 2, HIGH}) {
            for (int cell : new int[] {LOW, -1, 160, HIGH}) {
                check.refused("knows(" + side + ", " + cell + ")", Given.PAIR, ARGUMENT, w -> w.knows(side, cell));
            }
        }
    }

    /** It KNOWS just the CELLS of which sees() says so; what that says, is asked with promise 6. */
    static void promise7AsItComesAllThatItSees() {
        for (int from : new int[] {17, at(14, 1), at(7, 4), at(1, 8), 142}) {
            Warren warren = hall();
            warren.set(at(6, 4), 1);
            warren.set(at(8, 3), 2);
            warren.set(at(7, 5), 3);
            warren.come(1, from, 9);
            int count = 0;
            for (int cell = 0; cell < 160; cell++) {
                boolean sees = warren.sees(from, cell);
                check.due("knows(1, " + cell + ") from " + from, warren.knows(1, cell), sees);
                count += sees ? 1 : 0;
            }
            check.due("many(7)", warren.many(7), count);
            check.due("many(6)", warren.many(6), 0);
        }
    }

    static void promise7ItsOwnCellAndThoseNextToIt() {
        Warren warren = new Warren();
        warren.dig(5, 5, 1, 1);
        warren.come(0, at(5, 5), 9);
        for (int cell = 0; cell < 160; cell++) {
            boolean isNear = Math.abs(cell % 16 - 5) <= 1 && Math.abs(cell / 16 - 5) <= 1;
            check.due("knows(0, " + cell + ")", warren.knows(0, cell), isNear);
        }
    }

    static void promise7NotAsOneCannotCome() {
        check.refused("come into a wall", Given.HALL, STATE, w -> w.come(0, 0, 9));
        check.refused("come with no life", Given.HALL, ARGUMENT, w -> w.come(0, 17, 0));
        check.refused("come on another one", Given.ONE_SIDE, STATE, w -> w.come(0, at(4, 4), 9));
    }

    static void promise7NotWhatTheOtherSideSees() {
        Warren warren = hall();
        warren.come(0, at(1, 1), 9);
        warren.come(1, at(14, 8), 9);
        check.due("knows(0, 142)", warren.knows(0, 142), false);
        check.due("knows(1, 17)", warren.knows(1, 17), false);
        check.due("knows(0, 17)", warren.knows(0, 17), true);
        check.due("knows(1, 142)", warren.knows(1, 142), true);
    }

    /** A wall falls while it waits: every ACTION of it, whatever it is, lets it look around. */
    static void promise7BehindEachAction() {
        for (int action = 0; action < 8; action++) {
            Warren warren = new Warren();
            warren.dig(4, 4, 3, 3);
            warren.dig(8, 5, 1, 1);
            warren.come(0, at(5, 5), 20);
            warren.come(1, at(5, 4), 20);
            check.due("knows(0, (8, 5)) ahead of act(" + action + ")", warren.knows(0, at(8, 5)), false);
            warren.dig(7, 5, 1, 1);
            warren.act(action);
            check.due("knows(0, (8, 5)) behind act(" + action + ")", warren.knows(0, at(8, 5)), true);
            check.due("knows(1, (8, 5)) behind act(" + action + ")", warren.knows(1, at(8, 5)), false);
        }
    }

    static void promise7BehindAGoFromWhereItIsThen() {
        Warren warren = hall();
        warren.come(0, at(2, 5), 20);
        check.due("8 columns off", warren.knows(0, at(10, 5)), false);
        warren.act(2);
        check.due("7 columns off then", warren.knows(0, at(10, 5)), true);
        check.due("8 columns off then", warren.knows(0, at(11, 5)), false);
    }

    static void promise7BehindADoorThatItOpened() {
        Warren warren = new Warren();
        warren.dig(2, 2, 1, 1);
        warren.dig(4, 2, 1, 1);
        warren.set(at(3, 2), 2);
        warren.come(0, at(2, 2), 9);
        check.due("the door itself", warren.knows(0, at(3, 2)), true);
        check.due("behind it, shut", warren.knows(0, at(4, 2)), false);
        warren.act(2);
        check.due("behind it, open", warren.knows(0, at(4, 2)), true);
        check.due("behind it, the other side", warren.knows(1, at(4, 2)), false);
    }

    static void promise7NotBehindTheActionOfAnotherOne() {
        Warren warren = new Warren();
        warren.dig(2, 2, 1, 1);
        warren.dig(4, 2, 1, 1);
        warren.dig(10, 7, 1, 1);
        warren.come(0, at(10, 7), 9);
        warren.come(0, at(2, 2), 9);
        warren.dig(3, 2, 1, 1);
        warren.act(0);
        check.due("as another one of its side acted", warren.knows(0, at(4, 2)), false);
        warren.act(0);
        check.due("as it acted itself", warren.knows(0, at(4, 2)), true);
    }

    static void promise7NotWhenItIsDeadBehindItsAction() {
        Warren warren = hall();
        warren.come(0, at(2, 5), 5);
        warren.lay(0, 0, 5, 1);
        int before = warren.many(6);
        warren.act(2);
        check.due("it is dead", warren.of(0, 2), 0);
        check.due("many(6)", warren.many(6), before);
        check.due("knows(0, (10, 5))", warren.knows(0, at(10, 5)), false);
        Warren alive = hall();
        alive.come(0, at(2, 5), 6);
        alive.lay(0, 0, 5, 1);
        alive.act(2);
        check.due("with a LIFE of 1 left", alive.knows(0, at(10, 5)), true);
    }

    static void promise7WhateverBecomesOfTheCell() {
        Warren warren = hall();
        warren.come(0, at(5, 5), 9);
        for (int kind = 3; kind >= 0; kind--) {
            warren.set(at(7, 5), kind);
            check.due("knows what is a " + kind, warren.knows(0, at(7, 5)), true);
            check.due("knows what is behind a " + kind, warren.knows(0, at(8, 5)), true);
        }
        warren.set(at(6, 5), 1);
        warren.act(0);
        check.due("behind a wall and an action", warren.knows(0, at(8, 5)), true);
    }

    static void promise7WhateverBecomesOfTheSide() {
        Warren warren = Given.ALL_DEAD.get();
        check.due("knows(0, (4, 4))", warren.knows(0, at(4, 4)), true);
        check.due("knows(1, (8, 4))", warren.knows(1, at(8, 4)), true);
        check.due("knows(0, (12, 4))", warren.knows(0, at(12, 4)), false);
        check.due("knows(1, (0, 4))", warren.knows(1, at(0, 4)), false);
    }

    static void promise7AsItWasWhenAGameIsLoaded() {
        Warren warren = hall();
        warren.come(0, at(2, 5), 20);
        warren.save();
        warren.act(2);
        check.due("known by then", warren.knows(0, at(10, 5)), true);
        warren.load(0);
        check.due("not known again", warren.knows(0, at(10, 5)), false);
        check.due("known still", warren.knows(0, at(9, 5)), true);
        warren.act(2);
        check.due("known once more", warren.knows(0, at(10, 5)), true);
    }

    static void promise7NothingElseTeaches() {
        Warren warren = new Warren();
        warren.dig(2, 2, 1, 1);
        warren.dig(4, 2, 1, 1);
        warren.come(0, at(2, 2), 20);
        warren.come(1, at(4, 2), 20);
        warren.dig(3, 2, 1, 1);
        warren.become(0, 9, 9, 4);
        warren.lay(0, 2, 9, 9);
        warren.save();
        warren.ahead(40);
        warren.load(0);
        warren.plan(0);
        warren.target(0);
        check.due("knows(0, (4, 2))", warren.knows(0, at(4, 2)), false);
        check.due("knows(1, (2, 2))", warren.knows(1, at(2, 2)), false);
        warren.follow(1);
        check.due("behind follow(1)", warren.knows(0, at(4, 2)), true);
        check.due("the other side behind follow(1)", warren.knows(1, at(2, 2)), false);
    }

    static void promise7AskingChangesNothing() {
        for (Given given : Given.values()) {
            check.leaves("knows()", given, MapEdgesTest::askKnows);
        }
    }

    private static void askKnows(Warren warren) {
        for (int cell = 0; cell < 160; cell += 4) {
            warren.knows(0, cell);
            warren.knows(1, cell);
        }
    }
}
