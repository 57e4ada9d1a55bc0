import java.util.NoSuchElementException;

/**
 * Each exception of each call, in houses of several kinds, and several at once: the one that is listed first comes, and
 * nothing has changed by it.
 */
public final class RefusedTest {
    private static final Class<?> INDEX = IndexOutOfBoundsException.class;
    private static final Class<?> ARGUMENT = IllegalArgumentException.class;
    private static final Class<?> STATE = IllegalStateException.class;
    private static final Class<?> NONE = NoSuchElementException.class;
    private static final Class<?> UNSUPPORTED = UnsupportedOperationException.class;
    private static final int LEAST = Integer.MIN_VALUE;
    private static final int MOST = Integer.MAX_VALUE;

    /** A house of a kind: the same one each time. */
    private interface Kind {
        Levelsmith built();
    }

    private interface Refused {
        Object on(Levelsmith house);
    }

    private final String name;
    private final Kind kind;
    private final String due;

    private RefusedTest(String name, Kind kind) {
        this.name = name;
        this.kind = kind;
        due = Account.of(kind.built());
    }

    private void refuses(String what, Class<?> thrown, Refused call) {
        Levelsmith house = kind.built();
        Check.fails(what + ", " + name, thrown, () -> call.on(house));
        Check.same(what + ", " + name + ": what has changed", "", Account.unlike(due, Account.of(house)));
    }

    public static void main(String[] args) {
        RefusedTest empty = new RefusedTest("empty", Levelsmith::new);
        empty.withoutLevels();
        empty.withoutGame();
        RefusedTest full = new RefusedTest("full", RefusedTest::full);
        full.building();
        full.guarding();
        full.reaching();
        full.needs();
        full.mending();
        full.gameGoingOn();
        full.runs();
        full.bots();
        full.publishing();
        new RefusedTest("with a game that has ended", RefusedTest::ended).gameEnded();
        new RefusedTest("with a loaded game that has ended", RefusedTest::loadedAndEnded).loadedGameEnded();
        new RefusedTest("with 150 inputs", RefusedTest::spent).gameSpent();
        new RefusedTest("with 150 inputs behind a load", RefusedTest::spentBehindLoad).gameSpent();
        new RefusedTest("with saves on changed levels", RefusedTest::withBarredSaves).barredSaves();
        new RefusedTest("with runs on changed levels", RefusedTest::withBarredRuns).barredRuns();
        new RefusedTest("behind another game", RefusedTest::begunAnew).gameBegunAnew();
        Check.end("RefusedTest");
    }

    /** Five levels: one that is won, one that none can mend, one that can be mended, one with a fork, a copy. */
    private static Levelsmith full() {
        Levelsmith house = new Levelsmith();
        Check.draw(house, "....", "@..E", "####");
        house.guard(0, 0, 1, 0);
        Check.draw(house, "...", "...", "@.E");
        house.guard(1, 0, 0, 0);
        house.guard(1, 0, 1, 0);
        house.guard(1, 0, 2, 0);
        Check.draw(house, "####", "@.#E", "####");
        Check.draw(house, "####", "E@^#", "####");
        house.copy(0);
        keepRuns(house);
        house.bot(3, 0, 90, 5, 20);
        house.publish(0, 3, 0);
        house.publish(3, 4, 9);
        house.play(0);
        house.input(2);
        house.save(0);
        house.input(5);
        house.save(5);
        house.play(2);
        house.input(2);
        return house;
    }

    /** Nine runs on the first level, won and not, and the tenth one on the fork. */
    private static void keepRuns(Levelsmith house) {
        for (int run = 0; run < 9; run++) {
            house.play(0);
            Check.give(house, run % 2 == 0 ? "222" : "1222");
            house.keep();
        }
        house.play(3);
        Check.give(house, "0");
        house.keep();
    }

    private static Levelsmith ended() {
        Levelsmith house = new Levelsmith();
        Check.draw(house, "....", "@..E", "####");
        house.play(0);
        house.save(2);
        Check.give(house, "222");
        return house;
    }

    private static Levelsmith loadedAndEnded() {
        Levelsmith house = ended();
        house.keep();
        house.load(2);
        Check.give(house, "222");
        return house;
    }

    private static Levelsmith spent() {
        Levelsmith house = new Levelsmith();
        Check.draw(house, "....", "@..E", "####");
        house.play(0);
        Check.give(house, "1".repeat(150));
        return house;
    }

    private static Levelsmith spentBehindLoad() {
        Levelsmith house = new Levelsmith();
        Check.draw(house, "....", "@..E", "####");
        house.play(0);
        house.input(2);
        house.save(5);
        house.load(5);
        Check.give(house, "1".repeat(150));
        return house;
    }

    /** The slots 0 to 4 hold states onto which something was put since; a game goes on elsewhere. */
    private static Levelsmith withBarredSaves() {
        Levelsmith house = new Levelsmith();
        for (int level = 0; level < 5; level++) {
            Check.draw(house, "...", "@..", "###");
            house.play(level);
            house.input(1);
            house.save(level);
        }
        house.put(0, 0, 1, '#');
        house.put(1, 0, 1, '^');
        house.guard(2, 0, 0, 1);
        house.put(3, 0, 1, 'D');
        house.put(4, 0, 1, 'G');
        house.play(2);
        house.input(5);
        return house;
    }

    /** Runs that died, that do not end any more, and that do not win any more. */
    private static Levelsmith withBarredRuns() {
        Levelsmith house = new Levelsmith();
        Check.draw(house, "###", "@^E", "###");
        house.play(0);
        house.input(2);
        house.keep();
        Check.draw(house, "####", "@..E", "####");
        house.play(1);
        Check.give(house, "222");
        house.keep();
        house.put(1, 1, 1, '#');
        Check.draw(house, "####", "@..E", "####");
        house.play(2);
        Check.give(house, "222");
        house.keep();
        house.put(2, 1, 1, '^');
        Check.draw(house, "####", "@..E", "####");
        house.play(3);
        Check.give(house, "222");
        house.keep();
        house.publish(3, 7, 3);
        house.copy(3);
        house.play(4);
        Check.give(house, "1222");
        house.keep();
        return house;
    }

    private static Levelsmith begunAnew() {
        Levelsmith house = ended();
        house.keep();
        house.play(0);
        return house;
    }

    private void withoutLevels() {
        for (int level : new int[] {0, 1, 4, 5, -1, LEAST, MOST}) {
            refuses("3 put " + level, INDEX, house -> house.put(level, 0, 0, '.'));
            refuses("4 fill " + level, INDEX, house -> house.fill(level, 0, 0, 1, 1, '.'));
            refuses("5 tile " + level, INDEX, house -> house.tile(level, 0, 0));
            refuses("6 start " + level, INDEX, house -> house.start(level, 0, 0));
            refuses("7 guard " + level, INDEX, house -> house.guard(level, 0, 0, 0));
            refuses("8 guardAt " + level, INDEX, house -> house.guardAt(level, 0, 0));
            refuses("9 copy " + level, INDEX, house -> house.copy(level));
            refuses("10 grow " + level, INDEX, house -> house.grow(level, 1));
            refuses("11 isWinnable " + level, INDEX, house -> house.isWinnable(level));
            refuses("12 frames " + level, INDEX, house -> house.frames(level));
            refuses("13 routeAt " + level, INDEX, house -> house.routeAt(level, 0));
            refuses("14 states " + level, INDEX, house -> house.states(level));
            refuses("15 framesTo " + level, INDEX, house -> house.framesTo(level, 0, 0));
            refuses("16 softLocks " + level, INDEX, house -> house.softLocks(level));
            refuses("17 softLockAt " + level, INDEX, house -> house.softLockAt(level, 'x'));
            refuses("18 ways " + level, INDEX, house -> house.ways(level));
            refuses("19 isNeeded " + level, INDEX, house -> house.isNeeded(level, 'k'));
            refuses("20 isWinnableWith " + level, INDEX, house -> house.isWinnableWith(level, 'g'));
            refuses("21 mend " + level, INDEX, house -> house.mend(level));
            refuses("22 mendAt " + level, INDEX, house -> house.mendAt(level, 'x'));
            refuses("23 rests " + level, INDEX, house -> house.rests(level));
            refuses("24 longestAir " + level, INDEX, house -> house.longestAir(level));
            refuses("25 play " + level, INDEX, house -> house.play(level));
            refuses("37 bot " + level, INDEX, house -> house.bot(level, 0, 0, 0, 1));
            refuses("40 publish " + level, INDEX, house -> house.publish(level, 0, 0));
            refuses("42 isStolen " + level, INDEX, house -> house.isStolen(level, 0));
            refuses("44 checksum " + level, INDEX, house -> house.checksum(level));
            refuses("45 stuckShare " + level, INDEX, house -> house.stuckShare(level));
            refuses("46 meanLeft " + level, INDEX, house -> house.meanLeft(level));
        }
    }

    private void withoutGame() {
        refuses("26 input", STATE, house -> house.input(0));
        refuses("26 no input", ARGUMENT, house -> house.input(6));
        refuses("27 told", STATE, house -> house.told('f'));
        refuses("27 no letter", ARGUMENT, house -> house.told('g'));
        refuses("29 save", STATE, house -> house.save(5));
        refuses("29 no slot", INDEX, house -> house.save(6));
        refuses("31 keep", UNSUPPORTED, house -> house.keep());
        for (int slot = 0; slot < 6; slot++) {
            int from = slot;
            refuses("30 load " + slot, NONE, house -> house.load(from));
        }
        for (int number : new int[] {0, 1, 9, 10, -1, LEAST, MOST}) {
            refuses("32 length " + number, INDEX, house -> house.length(number));
            refuses("33 replay " + number, INDEX, house -> house.replay(number));
            refuses("34 isTrue " + number, INDEX, house -> house.isTrue(number));
            refuses("35 isPatched " + number, INDEX, house -> house.isPatched(number));
            refuses("36 ghost " + number, INDEX, house -> house.ghost(number, 0, 'x'));
            refuses("41 makerAt " + number, INDEX, house -> house.makerAt(number));
        }
        refuses("39 hardest x", NONE, house -> house.hardest('x'));
        refuses("39 hardest y", NONE, house -> house.hardest('y'));
        refuses("39 no letter", ARGUMENT, house -> house.hardest('z'));
        refuses("38 fell", INDEX, house -> house.fell(12, 8));
        refuses("2 level", ARGUMENT, house -> house.level(13, 9, 'x'));
    }

    private void building() {
        refuses("2 sixth level", STATE, house -> house.level(3, 3, '.'));
        refuses("2 sixth level, narrow", ARGUMENT, house -> house.level(2, 3, '.'));
        refuses("2 sixth level, wide", ARGUMENT, house -> house.level(13, 3, '.'));
        refuses("2 sixth level, low", ARGUMENT, house -> house.level(3, 2, '.'));
        refuses("2 sixth level, high", ARGUMENT, house -> house.level(3, 9, '.'));
        refuses("2 sixth level of no tile", ARGUMENT, house -> house.level(3, 3, 'e'));
        refuses("9 sixth level", STATE, house -> house.copy(4));
        refuses("9 sixth level of none", INDEX, house -> house.copy(5));
        int[][] wrong = {{5, 0, 0}, {-1, 0, 0}, {0, 4, 0}, {0, -1, 0}, {0, 0, 3}, {0, 0, -1}, {0, MOST, LEAST}};
        for (int[] cell : wrong) {
            String at = cell[0] + " " + cell[1] + " " + cell[2];
            refuses("3 put " + at, INDEX, house -> house.put(cell[0], cell[1], cell[2], '='));
            refuses("3 put no tile " + at, INDEX, house -> house.put(cell[0], cell[1], cell[2], '?'));
            refuses("4 fill " + at, INDEX, house -> house.fill(cell[0], cell[1], cell[2], 1, 1, '='));
            refuses("4 fill beyond " + at, INDEX, house -> house.fill(cell[0], cell[1], cell[2], 9, 9, '='));
            refuses("4 fill nothing " + at, INDEX, house -> house.fill(cell[0], cell[1], cell[2], 0, 0, '='));
            refuses("4 fill with no tile " + at, INDEX, house -> house.fill(cell[0], cell[1], cell[2], 1, 1, '?'));
            refuses("5 tile " + at, INDEX, house -> house.tile(cell[0], cell[1], cell[2]));
            refuses("6 start " + at, INDEX, house -> house.start(cell[0], cell[1], cell[2]));
            refuses("15 framesTo " + at, INDEX, house -> house.framesTo(cell[0], cell[1], cell[2]));
        }
        refuses("3 no tile", ARGUMENT, house -> house.put(0, 1, 1, '?'));
        refuses("4 no tile", ARGUMENT, house -> house.fill(0, 0, 0, 4, 3, '?'));
        refuses("4 no tile, and beyond", ARGUMENT, house -> house.fill(0, 0, 0, 5, 3, '?'));
        int[][] beyond = {{0, 0, 5, 1}, {0, 0, 1, 4}, {3, 0, 2, 1}, {0, 2, 1, 2}, {3, 2, 2, 2}, {1, 1, MOST, 1},
            {1, 1, 1, MOST}, {1, 1, MOST, MOST}, {0, 0, 0, 1}, {0, 0, 1, 0}, {0, 0, -1, 1}, {0, 0, 1, -1}, {3, 2, LEAST, 1},
            {3, 2, 1, LEAST}};
        for (int[] part : beyond) {
            refuses("4 fill " + part[0] + " " + part[1] + " " + part[2] + " " + part[3], ARGUMENT,
                    house -> house.fill(0, part[0], part[1], part[2], part[3], '='));
        }
        refuses("10 grow", INDEX, house -> house.grow(5, 3));
    }

    private void guarding() {
        refuses("7 no level", INDEX, house -> house.guard(5, 0, 0, 0));
        refuses("7 no level, nor so far", INDEX, house -> house.guard(-1, 0, 4, 0));
        refuses("7 no column", INDEX, house -> house.guard(0, 4, 0, 0));
        refuses("7 no column, nor so far", INDEX, house -> house.guard(0, -1, 4, 0));
        refuses("7 no row, nor so far", INDEX, house -> house.guard(0, 0, 4, 3));
        refuses("7 no row of a level with 3", INDEX, house -> house.guard(1, 0, 0, -1));
        for (int far : new int[] {-6, -1, 4, 5, 7, 8, 12, LEAST, MOST}) {
            refuses("7 far " + far, ARGUMENT, house -> house.guard(0, 0, far, 0));
            refuses("7 fourth, far " + far, ARGUMENT, house -> house.guard(1, 0, far, 0));
        }
        refuses("7 beyond", ARGUMENT, house -> house.guard(0, 0, 6, 0));
        refuses("7 beyond", ARGUMENT, house -> house.guard(0, 1, 3, 0));
        refuses("7 beyond", ARGUMENT, house -> house.guard(0, 3, 1, 0));
        refuses("7 fourth, beyond", ARGUMENT, house -> house.guard(1, 0, 3, 0));
        refuses("7 fourth", STATE, house -> house.guard(1, 0, 0, 0));
        refuses("7 fourth", STATE, house -> house.guard(1, 0, 2, 2));
        refuses("8 no level", INDEX, house -> house.guardAt(5, 0, 0));
        refuses("8 no level, nor frame", INDEX, house -> house.guardAt(5, 0, -1));
        refuses("8 no guard", INDEX, house -> house.guardAt(0, 1, 0));
        refuses("8 no guard, nor frame", INDEX, house -> house.guardAt(0, 1, 10000));
        refuses("8 no guards at all", INDEX, house -> house.guardAt(2, 0, 0));
        refuses("8 no fourth", INDEX, house -> house.guardAt(1, 3, 0));
        refuses("8 guard below 0", INDEX, house -> house.guardAt(1, -1, 0));
        refuses("8 frame below 0", ARGUMENT, house -> house.guardAt(1, 2, -1));
        refuses("8 frame 10000", ARGUMENT, house -> house.guardAt(1, 2, 10000));
    }

    private void reaching() {
        for (int level : new int[] {1, 2}) {
            refuses("12 frames " + level, NONE, house -> house.frames(level));
            refuses("13 routeAt " + level, NONE, house -> house.routeAt(level, 0));
            refuses("13 routeAt, no frame " + level, NONE, house -> house.routeAt(level, -1));
            refuses("13 routeAt, far too late " + level, NONE, house -> house.routeAt(level, MOST));
            refuses("23 rests " + level, NONE, house -> house.rests(level));
            refuses("24 longestAir " + level, NONE, house -> house.longestAir(level));
            refuses("46 meanLeft " + level, NONE, house -> house.meanLeft(level));
            refuses("37 bot " + level, NONE, house -> house.bot(level, 0, 0, 0, 1));
        }
        for (int frame : new int[] {3, 4, -1, LEAST, MOST}) {
            refuses("13 frame " + frame, INDEX, house -> house.routeAt(0, frame));
        }
        refuses("13 no level, nor frame", INDEX, house -> house.routeAt(5, -1));
        refuses("15 a wall", NONE, house -> house.framesTo(0, 0, 2));
        refuses("15 the exit", NONE, house -> house.framesTo(0, 3, 1));
        refuses("17 none is stuck", NONE, house -> house.softLockAt(0, 'x'));
        refuses("17 none is stuck", NONE, house -> house.softLockAt(0, 'f'));
        refuses("17 none is stuck, no letter", ARGUMENT, house -> house.softLockAt(0, 'z'));
        refuses("17 no letter", ARGUMENT, house -> house.softLockAt(2, 'a'));
        refuses("17 no level, nor letter", INDEX, house -> house.softLockAt(5, 'a'));
    }

    private void needs() {
        refuses("19 cannot be won", NONE, house -> house.isNeeded(1, 'E'));
        refuses("19 cannot be won", NONE, house -> house.isNeeded(2, 'k'));
        for (char sign : ".#=~^DcGgxK".toCharArray()) {
            refuses("19 sign " + sign, ARGUMENT, house -> house.isNeeded(0, sign));
            refuses("19 cannot be won, sign " + sign, ARGUMENT, house -> house.isNeeded(2, sign));
            refuses("19 no level, sign " + sign, INDEX, house -> house.isNeeded(5, sign));
            refuses("20 no level, help " + sign, INDEX, house -> house.isWinnableWith(-1, sign));
        }
        for (char help : "GSTkhxf.".toCharArray()) {
            refuses("20 help " + help, ARGUMENT, house -> house.isWinnableWith(0, help));
            refuses("20 cannot be won, help " + help, ARGUMENT, house -> house.isWinnableWith(1, help));
        }
    }

    private void mending() {
        refuses("21 none will do", UNSUPPORTED, house -> house.mend(1));
        refuses("21 no level", INDEX, house -> house.mend(5));
        refuses("22 none will do", NONE, house -> house.mendAt(1, 'x'));
        refuses("22 none will do", NONE, house -> house.mendAt(1, 'y'));
        refuses("22 can be won", NONE, house -> house.mendAt(0, 'y'));
        for (int level = 0; level < 3; level++) {
            int which = level;
            refuses("22 no letter " + level, ARGUMENT, house -> house.mendAt(which, 'f'));
        }
        refuses("22 no level, nor letter", INDEX, house -> house.mendAt(5, 'f'));
    }

    private void gameGoingOn() {
        refuses("25 no level", INDEX, house -> house.play(5));
        refuses("25 level below 0", INDEX, house -> house.play(-1));
        for (int input : new int[] {-1, 6, 7, LEAST, MOST}) {
            refuses("26 input " + input, ARGUMENT, house -> house.input(input));
        }
        for (char what : "XYASJFzbkt".toCharArray()) {
            refuses("27 told " + what, ARGUMENT, house -> house.told(what));
        }
        for (int slot : new int[] {-1, 6, LEAST, MOST}) {
            refuses("29 save " + slot, INDEX, house -> house.save(slot));
            refuses("30 load " + slot, INDEX, house -> house.load(slot));
        }
        for (int slot = 1; slot < 5; slot++) {
            int from = slot;
            refuses("30 none in " + slot, NONE, house -> house.load(from));
        }
        // Ten runs stand, but that the game goes on comes first.
        refuses("31 it goes on", UNSUPPORTED, house -> house.keep());
    }

    private void runs() {
        for (int number : new int[] {10, 11, -1, LEAST, MOST}) {
            refuses("32 length " + number, INDEX, house -> house.length(number));
            refuses("33 replay " + number, INDEX, house -> house.replay(number));
            refuses("34 isTrue " + number, INDEX, house -> house.isTrue(number));
            refuses("35 isPatched " + number, INDEX, house -> house.isPatched(number));
            refuses("36 ghost " + number, INDEX, house -> house.ghost(number, 0, 'x'));
            refuses("36 ghost in no frame " + number, INDEX, house -> house.ghost(number, -1, 'x'));
            refuses("36 ghost by no letter " + number, INDEX, house -> house.ghost(number, 0, 'f'));
        }
        refuses("36 frame below 0", ARGUMENT, house -> house.ghost(0, -1, 'x'));
        refuses("36 frame beyond the length", ARGUMENT, house -> house.ghost(0, 4, 'y'));
        refuses("36 frame beyond another length", ARGUMENT, house -> house.ghost(1, 5, 'y'));
        refuses("36 no letter", ARGUMENT, house -> house.ghost(0, 0, 'f'));
        refuses("36 no letter, and ended", ARGUMENT, house -> house.ghost(0, 3, 'X'));
        refuses("36 ended", NONE, house -> house.ghost(0, 3, 'x'));
        refuses("36 another one ended", NONE, house -> house.ghost(1, 4, 'y'));
    }

    private void bots() {
        int[][] wrong = {{-1, 0, 1}, {10, 0, 1}, {0, -1, 1}, {0, 101, 1}, {0, 0, 0}, {0, 0, 31}, {LEAST, 0, 1}, {MOST, 0, 1},
            {0, LEAST, 1}, {0, MOST, 1}, {0, 0, LEAST}, {0, 0, MOST}, {0, 0, -1}, {10, 101, 31}};
        for (int[] n : wrong) {
            String numbers = n[0] + " " + n[1] + " " + n[2];
            refuses("37 bot " + numbers, ARGUMENT, house -> house.bot(3, n[0], n[1], 1, n[2]));
            refuses("37 bot where none wins " + numbers, ARGUMENT, house -> house.bot(1, n[0], n[1], 1, n[2]));
            refuses("37 bot on no level " + numbers, INDEX, house -> house.bot(5, n[0], n[1], 1, n[2]));
        }
        int[][] cells = {{12, 0}, {0, 8}, {-1, 0}, {0, -1}, {12, 8}, {-1, -1}, {-1, 1}, {LEAST, 0}, {0, MOST}};
        for (int[] cell : cells) {
            refuses("38 fell " + cell[0] + " " + cell[1], INDEX, house -> house.fell(cell[0], cell[1]));
        }
        for (char axis : "XYfz".toCharArray()) {
            refuses("39 hardest " + axis, ARGUMENT, house -> house.hardest(axis));
        }
    }

    private void publishing() {
        for (int maker : new int[] {-1, 10, 11, LEAST, MOST}) {
            refuses("40 maker " + maker, ARGUMENT, house -> house.publish(0, maker, 0));
            refuses("40 maker, on another level " + maker, ARGUMENT, house -> house.publish(1, maker, 0));
            refuses("40 maker, no level " + maker, INDEX, house -> house.publish(5, maker, 0));
            refuses("40 maker, no run " + maker, INDEX, house -> house.publish(0, maker, 10));
            refuses("42 maker " + maker, ARGUMENT, house -> house.isStolen(0, maker));
            refuses("42 maker, no level " + maker, INDEX, house -> house.isStolen(5, maker));
        }
        for (int run : new int[] {-1, 10, LEAST, MOST}) {
            refuses("40 run " + run, INDEX, house -> house.publish(0, 0, run));
        }
        refuses("40 no level", INDEX, house -> house.publish(-1, 3, 0));
        refuses("40 on another level", UNSUPPORTED, house -> house.publish(1, 3, 0));
        refuses("40 on a copy", UNSUPPORTED, house -> house.publish(4, 3, 0));
        for (int maker = 0; maker < 10; maker++) {
            int other = maker;
            if (maker != 3) {
                refuses("40 another maker " + maker, UNSUPPORTED, house -> house.publish(0, other, 0));
            }
        }
        for (int rank : new int[] {2, 3, -1, LEAST, MOST}) {
            refuses("41 rank " + rank, INDEX, house -> house.makerAt(rank));
        }
    }

    private void gameEnded() {
        refuses("26 input", STATE, house -> house.input(2));
        refuses("26 no input", ARGUMENT, house -> house.input(-1));
        refuses("27 told", STATE, house -> house.told('x'));
        refuses("27 no letter", ARGUMENT, house -> house.told('X'));
        refuses("29 save", STATE, house -> house.save(2));
        refuses("29 save anew", STATE, house -> house.save(0));
        refuses("29 no slot", INDEX, house -> house.save(-1));
        refuses("30 none", NONE, house -> house.load(0));
        refuses("30 no slot", INDEX, house -> house.load(6));
        refuses("25 no level", INDEX, house -> house.play(1));
    }

    private void loadedGameEnded() {
        refuses("31 it was loaded", UNSUPPORTED, house -> house.keep());
        refuses("26 input", STATE, house -> house.input(2));
        refuses("27 told", STATE, house -> house.told('j'));
        refuses("29 save", STATE, house -> house.save(2));
    }

    private void gameSpent() {
        for (int input = 0; input < 6; input++) {
            int given = input;
            refuses("26 the 151st input " + input, STATE, house -> house.input(given));
        }
        refuses("26 no such input", ARGUMENT, house -> house.input(6));
        refuses("31 it has no end", UNSUPPORTED, house -> house.keep());
    }

    private void barredSaves() {
        for (int slot = 0; slot < 5; slot++) {
            int from = slot;
            refuses("30 load " + slot, UNSUPPORTED, house -> house.load(from));
        }
        refuses("30 none", NONE, house -> house.load(5));
    }

    private void barredRuns() {
        refuses("40 a run that died", UNSUPPORTED, house -> house.publish(0, 7, 0));
        refuses("40 a run without an end now", UNSUPPORTED, house -> house.publish(1, 7, 1));
        refuses("40 a run that dies now", UNSUPPORTED, house -> house.publish(2, 7, 2));
        refuses("40 a copy that another maker shows", UNSUPPORTED, house -> house.publish(4, 6, 4));
        refuses("40 a run that died, and no maker", ARGUMENT, house -> house.publish(0, 10, 0));
        refuses("36 it ends earlier now", NONE, house -> house.ghost(2, 1, 'x'));
        refuses("36 it ended then", NONE, house -> house.ghost(0, 1, 'y'));
        refuses("36 beyond its length", ARGUMENT, house -> house.ghost(0, 2, 'y'));
    }

    private void gameBegunAnew() {
        refuses("31 it goes on", UNSUPPORTED, house -> house.keep());
        refuses("32 no second run", INDEX, house -> house.length(1));
    }
}
