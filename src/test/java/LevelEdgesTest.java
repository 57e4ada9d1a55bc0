import java.util.ArrayList;
import java.util.List;
import java.util.NoSuchElementException;
import java.util.Random;

/** The edges of what is grown, reached and mended: promises 10 to 24 and 43 to 47. */
public final class LevelEdgesTest {
    private static final Class<?> INDEX = IndexOutOfBoundsException.class;
    private static final Class<?> NONE = NoSuchElementException.class;
    private static final Class<?> UNSUPPORTED = UnsupportedOperationException.class;
    /** From one end to the other one four times: for keys, hammers, the switch, and the exit. */
    private static final String[] LONG = {"EGhD@.......", "###########.", "............", ".###########", "............",
        "###########.", "Sck.........", "############"};

    public static void main(String[] args) {
        grownByDraws();
        grownAnew();
        firstStates();
        endsAreNoStates();
        statesInWater();
        stuckOrNot();
        shortest();
        longRun();
        allWays();
        eachInputAlone();
        lowestAndHighest();
        firstStateAlone();
        restsAndAir();
        mendedByRows();
        mendsFirstAndLastCell();
        mendsToPlateThenAir();
        mendsNoExit();
        mendsNothing();
        mendsInTurns();
        whereThereIsNothing();
        Check.end("LevelEdgesTest");
    }

    private static Levelsmith drawn(String... rows) {
        Levelsmith house = new Levelsmith();
        Check.draw(house, rows);
        return house;
    }

    /** Grows by the document's words, with draws by long numbers that cannot go round. */
    private static final class Growing {
        private long z;
        private int lowGrounds = 0;
        private int highGrounds = 0;
        private int pits = 0;
        private int barredDoors = 0;

        private int draw(int modulo) {
            z = (z * 1103515245L + 12345L) % 4294967296L;
            return (int) (z / 65536L % modulo);
        }

        char[][] grown(int wide, int high, int seed) {
            z = seed < 0 ? seed + 4294967296L : seed;
            char[][] tiles = new char[high][wide];
            int ground = high - 2;
            boolean keys = false;
            for (int x = 0; x < wide; x++) {
                boolean isDrawn = x > 1 && x < wide - 1;
                boolean isPit = false;
                if (isDrawn) {
                    ground += draw(3) - 1;
                    lowGrounds += ground < 2 ? 1 : 0;
                    highGrounds += ground > high - 1 ? 1 : 0;
                    ground = Math.min(high - 1, Math.max(2, ground));
                    isPit = draw(6) == 0;
                    pits += isPit ? 1 : 0;
                }
                for (int y = 0; y < high; y++) {
                    tiles[y][x] = y < ground || isPit ? '.' : '#';
                }
                if (isDrawn && !isPit) {
                    int tile = draw(8);
                    barredDoors += tile == 1 && !keys ? 1 : 0;
                    tiles[ground - 1][x] = tile == 0 ? 'k' : tile == 1 && keys ? 'D' : tile == 2 ? '^' : tile == 3 ? '~' : '.';
                    keys = keys || tile == 0;
                }
            }
            tiles[ground - 1][wide - 1] = 'E';
            return tiles;
        }
    }

    private static void grownByDraws() {
        int[] seeds = {0, 1, 2, -1, 3, 5, 23, 77, 65535, 65536, -65536, 12345, Integer.MIN_VALUE, Integer.MIN_VALUE + 1,
            Integer.MAX_VALUE, 1103515245, -1103515245};
        for (int wide = 3; wide <= 12; wide++) {
            Growing growing = new Growing();
            for (int high = 3; high <= 8; high++) {
                for (int seed : seeds) {
                    grown(growing, wide, high, seed);
                }
            }
            if (wide > 7) {
                Check.same("10 grounds that would be too high came", true, growing.lowGrounds > 0);
                Check.same("10 grounds that would be too low came", true, growing.highGrounds > 0);
                Check.same("10 pits came", true, growing.pits > 0);
                Check.same("10 doors ahead of keys came", true, growing.barredDoors > 0);
            }
        }
    }

    private static void grown(Growing growing, int wide, int high, int seed) {
        char[][] due = growing.grown(wide, high, seed);
        Levelsmith house = new Levelsmith();
        String what = wide + " wide, " + high + " high, seed " + seed;
        house.level(wide, high, '~');
        house.start(0, wide - 1, 0);
        house.guard(0, 0, 1, 0);
        int unlike = 0;
        for (char[] row : due) {
            for (char tile : row) {
                unlike += tile == '~' ? 0 : 1;
            }
        }
        Check.same("10 cells, " + what, unlike, house.grow(0, seed));
        for (int y = 0; y < high; y++) {
            Check.same("10 row " + y + ", " + what, new String(due[y]), Check.row(house, 0, y, wide));
        }
        Check.fails("10 guards go, " + what, INDEX, () -> house.guardAt(0, 0, 0));
        Check.same("10 start, " + what, 12 * (high - 3), house.play(0));
        Check.same("10 again, " + what, 0, house.grow(0, seed));
    }

    /** Keys of before, laid or grown, are none of this growing. */
    private static void grownAnew() {
        Growing growing = new Growing();
        int barred = 0;
        for (int seed = 0; seed < 300; seed++) {
            growing.barredDoors = 0;
            char[][] due = growing.grown(12, 6, seed);
            if (growing.barredDoors > 0) {
                barred++;
                Levelsmith house = new Levelsmith();
                house.level(12, 6, 'k');
                house.grow(0, seed);
                Levelsmith other = new Levelsmith();
                other.level(12, 6, '.');
                other.grow(0, 5);
                other.grow(0, seed);
                for (int y = 0; y < 6; y++) {
                    Check.same("10 on keys, seed " + seed, new String(due[y]), Check.row(house, 0, y, 12));
                    Check.same("10 behind grown keys, seed " + seed, new String(due[y]), Check.row(other, 0, y, 12));
                }
            }
        }
        Check.same("10 doors ahead of keys", true, barred > 30);
        Levelsmith all = new Levelsmith();
        all.level(3, 3, 'S');
        Check.same("10 each cell has another tile", 9, all.grow(0, 0));
    }

    /** The beginning is a state whatever is there. */
    private static void firstStates() {
        for (char tile : ".#=~^DcGgSkhsE".toCharArray()) {
            Levelsmith house = drawn("###", "#@#", "###");
            house.put(0, 1, 1, tile);
            int due = tile == '^' || tile == 'E' ? 1 : 12;
            Check.same("14 begun on " + tile, due, house.states(0));
            Check.same("15 begun on " + tile, 0, house.framesTo(0, 1, 1));
            Check.same("11 begun on " + tile, tile == 'E', house.isWinnable(0));
            Check.same("16 begun on " + tile, tile == 'E' ? 0 : due, house.softLocks(0));
        }
        // On a guard that goes away and comes back: only the phases in which it is elsewhere, up to the first one that dies.
        int[] ways = {0, 1, 2, 3, 6};
        for (int far : ways) {
            Levelsmith house = new Levelsmith();
            house.level(8, 3, '#');
            house.start(0, 0, 1);
            house.guard(0, 0, far, 1);
            int due = far == 0 ? 1 : 2 * far;
            Check.same("14 begun on a guard that goes " + far, due, house.states(0));
            Check.same("15 begun on a guard that goes " + far, 0, house.framesTo(0, 0, 1));
        }
        // Below all is nothing: who begins in the lowest row dies in the first frame.
        Levelsmith lowest = drawn("...", "...", "@.E");
        Check.same("14 begun in the lowest row", 1, lowest.states(0));
        Check.same("15 begun in the lowest row", 0, lowest.framesTo(0, 0, 2));
        Check.fails("15 beside it", NONE, () -> lowest.framesTo(0, 1, 2));
    }

    private static void endsAreNoStates() {
        Levelsmith house = drawn("#####", "^@..E", "#####");
        Check.fails("15 spikes", NONE, () -> house.framesTo(0, 0, 1));
        Check.fails("15 the exit", NONE, () -> house.framesTo(0, 4, 1));
        Check.same("15 beside the exit", 2, house.framesTo(0, 3, 1));
        Check.same("14 three cells in twelve phases", 36, house.states(0));
        Check.same("12 the exit", 3, house.frames(0));
        Levelsmith guarded = drawn("#####", "@...#", "#####");
        guarded.guard(0, 2, 0, 1);
        Check.fails("15 where a guard always is", NONE, () -> guarded.framesTo(0, 2, 1));
        Check.fails("15 behind the guard", NONE, () -> guarded.framesTo(0, 3, 1));
        Check.same("14 ahead of the guard", 24, guarded.states(0));
    }

    /** The largest level as it can be, without anything to find: each cell in each phase. */
    private static void statesInWater() {
        Levelsmith house = new Levelsmith();
        house.level(12, 8, '~');
        Check.same("14 all water", 96 * 12, house.states(0));
        Check.same("15 up", 7, house.framesTo(0, 0, 0));
        Check.same("15 the farthest cell", 11, house.framesTo(0, 11, 0));
        Check.same("16 all stuck", 96 * 12, house.softLocks(0));
        Check.same("45 all stuck", 1.0f, house.stuckShare(0));
        Check.same("18 no way", 0, house.ways(0));
        house.put(0, 11, 0, 'E');
        Check.same("12 the farthest cell", 11, house.frames(0));
        Check.same("16 none stuck", 0, house.softLocks(0));
        Check.same("45 none stuck", 0.0f, house.stuckShare(0));
        Check.fails("17 none stuck", NONE, () -> house.softLockAt(0, 'x'));
    }

    private static void stuckOrNot() {
        // One state alone, stuck or not.
        Levelsmith one = drawn("...", "...", "@..");
        Check.same("14 one", 1, one.states(0));
        Check.same("16 one", 1, one.softLocks(0));
        Check.same("17 one", "0 2 0", one.softLockAt(0, 'x') + " " + one.softLockAt(0, 'y') + " " + one.softLockAt(0, 'f'));
        Check.same("45 one", 1.0f, one.stuckShare(0));
        one.put(0, 0, 2, '~');
        one.put(0, 0, 1, 'E');
        one.put(0, 1, 1, '#');
        Check.same("14 one that wins", 1, one.states(0));
        Check.same("16 one that wins", 0, one.softLocks(0));
        Check.same("46 one that wins", 1.0, one.meanLeft(0));
        Check.same("12 one that wins", 1, one.frames(0));
        Check.same("13 it goes up", "3", Check.route(one, 0));
        // The last state that is found is the only one that is stuck, or all but the first ones.
        Levelsmith hole = drawn("####", "@..E", "##.#", "####");
        Check.same("16 none in a hole of one", 0, hole.softLocks(0));
        Levelsmith deep = drawn("#####", "E@..#", "###.#", "###.#", "###.#", "#####");
        // In twelve phases: above the hole, thrice down, and once more between by a jump that has a rise left.
        Check.same("16 in the hole", 5 * 12, deep.softLocks(0));
        Check.same("17 the first in the hole", "3 1 2", deep.softLockAt(0, 'x') + " " + deep.softLockAt(0, 'y') + " "
                + deep.softLockAt(0, 'f'));
    }

    private static void shortest() {
        Levelsmith exit = drawn("...", ".E.", "###");
        exit.start(0, 1, 1);
        Check.same("12 the shortest of all", 1, exit.frames(0));
        Check.same("13 it stays", 1, exit.routeAt(0, 0));
        Check.fails("13 no second frame", INDEX, () -> exit.routeAt(0, 1));
        // Of inputs that do the same the lowest one counts: barred above, a jump is no jump.
        Check.same("13 left", "00", Check.route(drawn("###", "E.@", "###"), 0));
        Check.same("13 right", "22", Check.route(drawn("###", "@.E", "###"), 0));
        Check.same("13 up", "3", Check.route(drawn("E..", "@..", "###"), 0));
        Check.same("13 up beside a step", "4", Check.route(drawn(".E.", ".@.", "###"), 0));
        Check.same("13 down", "0", Check.route(drawn("@..", "E..", "###"), 0));
        Check.same("13 down beside a step", "1", Check.route(drawn(".@.", ".E.", "###"), 0));
        // Of several shortest runs the one that is found first: by states that were found first, then by inputs.
        Check.same("13 two exits", "00", Check.route(drawn("#####", "E.@.E", "#####"), 0));
        Check.same("13 the nearer exit", "2", Check.route(drawn("#####", "#E.@E", "#####"), 0));
        Check.same("13 to the right", "222", Check.route(drawn("####", "@..E", "####"), 0));
    }

    /** A run that is longer than a game may be can be told, but played only with the help of a saved game. */
    private static void longRun() {
        Levelsmith house = drawn(LONG);
        Check.same("12 a long run", 176, house.frames(0));
        Check.same("47 a long run", true, house.isSound());
        Check.same("13 its last input", 0, house.routeAt(0, 175));
        Check.fails("13 none behind it", INDEX, () -> house.routeAt(0, 176));
        Check.same("19 each thing is needed", true, house.isNeeded(0, 'k') && house.isNeeded(0, 'h') && house.isNeeded(0, 'S'));
        Check.same("19 no springs", false, house.isNeeded(0, 's'));
        Check.same("37 within 200 frames", 1, house.bot(0, 0, 0, 1, 1));
        Check.same("37 late, there are not frames enough", 0, house.bot(0, 9, 0, 1, 1));
        Check.fails("39 nobody died", NONE, () -> house.hardest('x'));
        int[] route = new int[176];
        for (int frame = 0; frame < 176; frame++) {
            route[frame] = house.routeAt(0, frame);
        }
        Levelsmith game = drawn(LONG);
        game.play(0);
        for (int frame = 0; frame < 150; frame++) {
            Check.same("26 frame " + frame, 'p', game.input(route[frame]));
        }
        Check.fails("26 no more", IllegalStateException.class, () -> game.input(route[150]));
        Check.same("27 all inputs", 150, game.told('f'));
        game.save(0);
        game.load(0);
        Check.same("27 none yet", 0, game.told('f'));
        for (int frame = 150; frame < 176; frame++) {
            Check.same("26 frame " + frame, frame == 175 ? 'w' : 'p', game.input(route[frame]));
        }
        Check.fails("31 it was loaded", UNSUPPORTED, () -> game.keep());
    }

    private static void allWays() {
        String[] rows = {".........", ".........", "@.k.h.s.E", "#########"};
        Check.same("18 all eight sets", 8, drawn(rows).ways(0));
        Levelsmith none = drawn("###", "@.#", "###");
        Check.same("18 none", 0, none.ways(0));
        Check.same("18 one, of nothing", 1, drawn("###", "@.E", "###").ways(0));
        Check.same("18 one, of all", 1, drawn("#####", "@khsE", "#####").ways(0));
        Check.same("18 none of things that do not win", 1, drawn("#######", "E@.^k##", "#######").ways(0));
    }

    /** From the water in the middle each input leads to another cell, and one of these alone is the exit. */
    private static void eachInputAlone() {
        for (int input = 0; input < 6; input++) {
            Levelsmith house = drawn("^^^", ".~.", "^^^");
            house.start(0, 1, 1);
            house.put(0, input % 3, input < 3 ? 2 : 0, 'E');
            String what = " by input " + input + " alone";
            Check.same("11" + what, true, house.isWinnable(0));
            Check.same("12" + what, 1, house.frames(0));
            Check.same("13" + what, input, house.routeAt(0, 0));
            Check.same("14" + what, 1, house.states(0));
            Check.same("16" + what, 0, house.softLocks(0));
            Check.same("18" + what, 1, house.ways(0));
            Check.same("37" + what, 30, house.bot(0, 0, 0, 1, 30));
            Check.same("37 late," + what, 30, house.bot(0, 9, 0, 1, 30));
            Check.same("46" + what, 1.0, house.meanLeft(0));
            Check.same("47" + what, true, house.isSound());
            for (int other = 0; other < 6; other++) {
                house.play(0);
                Check.same("26 input " + other + "," + what, other == input ? 'w' : 'd', house.input(other));
            }
        }
    }

    /** The lowest and the highest input each win in one frame, and all others in more of them. */
    private static void lowestAndHighest() {
        Levelsmith lowest = drawn("...", "E@.", "###");
        Check.same("12 by the lowest input", 1, lowest.frames(0));
        Check.same("47 by the lowest input", true, lowest.isSound());
        Levelsmith highest = drawn("..E", ".@.", "###");
        Check.same("12 by the highest input", 1, highest.frames(0));
        Check.same("13 by the highest input", 5, highest.routeAt(0, 0));
        Check.same("47 by the highest input", true, highest.isSound());
    }

    /** Whoever does not go aside in the first frame falls past the exit. */
    private static void firstStateAlone() {
        Levelsmith house = drawn(".@.", "E..", "...");
        Check.same("13 from the first state", "0", Check.route(house, 0));
        Check.same("14 the first state, two, and three", 6, house.states(0));
        Check.same("16 all but the first state", 5, house.softLocks(0));
        Check.same("17 behind the first state", "1 1 1", house.softLockAt(0, 'x') + " " + house.softLockAt(0, 'y') + " "
                + house.softLockAt(0, 'f'));
        Check.same("18 from the first state", 1, house.ways(0));
        Check.same("45 all but the first state", 5.0f / 6.0f, house.stuckShare(0));
        Check.same("46 the first state", 1.0, house.meanLeft(0));
        Check.same("37 from the first state", 1, house.bot(0, 0, 0, 1, 1));
    }

    private static void restsAndAir() {
        // One frame alone: it does not count for rests, and is in the air's row.
        Levelsmith one = drawn("###", "@E#", "###");
        Check.same("23 one frame", 0, one.rests(0));
        Check.same("24 one frame", 1, one.longestAir(0));
        // Two frames: behind the first one bears what is below, or nothing does.
        Levelsmith two = drawn("###", "@.E", "###");
        Check.same("23 on the ground", 1, two.rests(0));
        Check.same("24 on the ground", 1, two.longestAir(0));
        Check.same("23 above a hole", 0, drawn("...", "@.E", "#.#").rests(0));
        Check.same("24 above a hole", 2, drawn("...", "@.E", "#.#").longestAir(0));
        // Over the hole, on its ground, and up to the exit.
        Levelsmith hole = drawn("####", "@.E.", "#.##", "####");
        Check.same("12 into a hole and out", 3, hole.frames(0));
        Check.same("23 into a hole and out", 1, hole.rests(0));
        Check.same("24 into a hole and out", 1, hole.longestAir(0));
        // All in the air, down to an exit in the lowest row; a row of others first, in the middle, and last.
        Levelsmith fall = drawn("@##", ".##", ".##", "E##");
        Check.same("23 all in the air", 0, fall.rests(0));
        Check.same("24 all in the air", 3, fall.longestAir(0));
        Levelsmith first = drawn("@#####", ".#####", ".....E", "######");
        Check.same("23 down first", 4, first.rests(0));
        Check.same("24 down first", 1, first.longestAir(0));
        Levelsmith last = drawn("@...##", "###.##", "###.##", "###E##");
        Check.same("23 down last", 2, last.rests(0));
        Check.same("24 down last", 4, last.longestAir(0));
        // Each bears or not as things and the switch are then; from where it does not, one falls aside to the exit.
        for (String pair : new String[] {"Dk", "ch", "GS"}) {
            char tile = pair.charAt(0);
            bears(true, "@..E#", "##" + tile + "##");
            bears(false, "@" + pair.charAt(1) + ".##", "##" + tile + "E#");
        }
        bears(false, "@..##", "##gE#");
        bears(true, "@S.E#", "##g##");
    }

    private static void bears(boolean due, String row, String below) {
        Levelsmith house = drawn("#####", row, below);
        Check.same("12 over " + below, 3, house.frames(0));
        Check.same("23 over " + below, due ? 2 : 1, house.rests(0));
        Check.same("24 over " + below, due ? 1 : 2, house.longestAir(0));
    }

    /** Looks for the first change by putting each, and asking whether it can be won then. */
    private static List<Object> firstChange(Levelsmith house, int wide, int high) {
        for (int y = 0; y < high; y++) {
            for (int x = 0; x < wide; x++) {
                char before = house.tile(0, x, y);
                for (char sign : before == 'E' ? new char[0] : new char[] {'=', '.'}) {
                    house.put(0, x, y, sign);
                    boolean wins = house.isWinnable(0);
                    house.put(0, x, y, before);
                    if (wins) {
                        return List.of(x, y, sign);
                    }
                }
            }
        }
        return List.of();
    }

    private static void mendedByRows() {
        Random random = new Random(41);
        int none = 0;
        int airs = 0;
        List<Object> cells = new ArrayList<>();
        for (int n = 0; n < 1500; n++) {
            int wide = 3 + random.nextInt(3);
            int high = 3 + random.nextInt(2);
            Levelsmith house = new Levelsmith();
            house.level(wide, high, random.nextInt(3) == 0 ? '.' : '#');
            for (int i = 0; i < 7; i++) {
                house.put(0, random.nextInt(wide), random.nextInt(high), "#=.^~GDck".charAt(random.nextInt(9)));
            }
            house.put(0, random.nextInt(wide), random.nextInt(high), 'E');
            house.start(0, random.nextInt(wide), random.nextInt(high));
            if (random.nextInt(3) == 0) {
                house.guard(0, random.nextInt(wide - 1), 1, random.nextInt(high));
            }
            if (house.isWinnable(0)) {
                continue;
            }
            List<Object> due = firstChange(house, wide, high);
            mended(house, n, due);
            none += due.isEmpty() ? 1 : 0;
            airs += due.size() == 3 && due.get(2).equals('.') ? 1 : 0;
            cells.addAll(due);
        }
        Check.same("21 changes to air came", true, airs > 20);
        Check.same("21 levels that none mends came", true, none > 50);
        Check.same("21 changes came", true, cells.size() > 900);
    }

    private static void mended(Levelsmith house, int n, List<Object> due) {
        long before = house.checksum(0);
        if (due.isEmpty()) {
            Check.fails("22 none " + n, NONE, () -> house.mendAt(0, 'x'));
            Check.fails("21 none " + n, UNSUPPORTED, () -> house.mend(0));
            Check.same("21 nothing has changed " + n, before, house.checksum(0));
            return;
        }
        Check.same("22 x " + n, due.get(0), house.mendAt(0, 'x'));
        Check.same("22 y " + n, due.get(1), house.mendAt(0, 'y'));
        int x = (Integer) due.get(0);
        int y = (Integer) due.get(1);
        Check.same("22 nothing has changed " + n, before, house.checksum(0));
        char tile = house.tile(0, x, y);
        Check.same("21 one " + n, 1, house.mend(0));
        Check.same("21 tile " + n, due.get(2), house.tile(0, x, y));
        Check.same("11 can be won " + n, true, house.isWinnable(0));
        Check.same("21 none more " + n, 0, house.mend(0));
        Check.fails("22 none more " + n, NONE, () -> house.mendAt(0, 'x'));
        house.put(0, x, y, tile);
        Check.same("21 no other cell " + n, before, house.checksum(0));
    }

    private static void mendsAt(String what, Levelsmith house, int x, int y, char sign) {
        Check.same("22 " + what, x + " " + y, house.mendAt(0, 'x') + " " + house.mendAt(0, 'y'));
        Check.same("21 " + what, 1, house.mend(0));
        Check.same("21 tile, " + what, sign, house.tile(0, x, y));
        Check.same("11 " + what, true, house.isWinnable(0));
    }

    private static void mendsFirstAndLastCell() {
        Levelsmith first = new Levelsmith();
        first.level(12, 8, '#');
        first.start(0, 1, 0);
        first.put(0, 0, 1, 'E');
        // On the left of the start is a wall; through it one falls to the exit, and no other cell will do.
        first.guard(0, 1, 0, 1);
        mendsAt("the first cell", first, 0, 0, '=');
        Levelsmith last = new Levelsmith();
        last.level(12, 8, '#');
        last.fill(0, 10, 6, 2, 1, '.');
        last.put(0, 9, 6, 'E');
        last.start(0, 11, 6);
        last.put(0, 11, 7, '.');
        mendsAt("the last cell to a plate", last, 11, 7, '=');
        // A guard bars the way above, so one must fall into the last cell, and step aside to the exit from it.
        for (int[] size : new int[][] {{12, 8}, {3, 3}, {12, 3}, {3, 8}}) {
            int x = size[0] - 1;
            int y = size[1] - 1;
            Levelsmith air = new Levelsmith();
            air.level(size[0], size[1], '#');
            air.put(0, x - 1, y, 'E');
            air.start(0, x, y - 1);
            air.guard(0, x - 1, 0, y - 1);
            mendsAt("the last cell to air", air, x, y, '.');
        }
    }

    private static void mendsToPlateThenAir() {
        // Both would do: the plate comes first.
        mendsAt("plate ahead of air", drawn("####", "@.#E", "####"), 2, 1, '=');
        // The plate would bear, so it is air.
        mendsAt("air where a plate bears", drawn("@##", "###", "E##"), 0, 1, '.');
        // A plate is not made a plate, but air; air is not made air, but a plate.
        mendsAt("a plate to air", drawn("@##", "=##", "E##"), 0, 1, '.');
        mendsAt("air to a plate", drawn("####", "@..E", "#.##"), 1, 2, '=');
        // A cell that is made air comes ahead of a later one that would do as a plate.
        Check.same("11 the later one", true, drawn("@...#", "##=.E", "E#..#").isWinnable(0));
        mendsAt("the earlier one", drawn("@...#", "##..E", "E#..#"), 0, 1, '.');
    }

    private static void mendsNoExit() {
        // Behind the exits that a guard stands on is the next one; an exit itself is never changed.
        Levelsmith house = drawn("#####", "@E.E#", "#####");
        house.guard(0, 1, 0, 1);
        Check.fails("21 by no exit", UNSUPPORTED, () -> house.mend(0));
        Check.fails("22 by no exit", NONE, () -> house.mendAt(0, 'x'));
        Check.same("21 the exits stay", ".E.E#", Check.row(house, 0, 1, 5));
        Levelsmith none = drawn("#####", "@..##", "#####");
        Check.fails("21 without an exit", UNSUPPORTED, () -> none.mend(0));
        Levelsmith all = new Levelsmith();
        all.level(3, 3, 'E');
        all.guard(0, 0, 0, 0);
        all.guard(0, 0, 2, 1);
        all.guard(0, 0, 0, 2);
        Check.fails("21 all are exits", UNSUPPORTED, () -> all.mend(0));
    }

    private static void mendsNothing() {
        Levelsmith won = drawn("###", "@.E", "###");
        long sum = won.checksum(0);
        Check.same("21 it can be won", 0, won.mend(0));
        Check.same("21 nothing has changed", sum, won.checksum(0));
        Check.fails("22 it can be won", NONE, () -> won.mendAt(0, 'x'));
        Check.fails("22 it can be won", NONE, () -> won.mendAt(0, 'y'));
    }

    /** What one level is mended by is nothing to another one. */
    private static void mendsInTurns() {
        Levelsmith house = drawn("####", "@.#E", "####");
        Check.draw(house, "@##", "###", "E##");
        Check.draw(house, "@..", "###", "###");
        for (int turn = 0; turn < 3; turn++) {
            Check.same("22 the first one", "2 1", house.mendAt(0, 'x') + " " + house.mendAt(0, 'y'));
            Check.fails("22 none, behind the first one", NONE, () -> house.mendAt(2, 'x'));
            Check.fails("21 none, behind the first one", UNSUPPORTED, () -> house.mend(2));
            Check.same("22 the second one", "0 1", house.mendAt(1, 'x') + " " + house.mendAt(1, 'y'));
            Check.fails("22 none, behind the second one", NONE, () -> house.mendAt(2, 'y'));
        }
        Check.same("21 the first one", 1, house.mend(0));
        Check.fails("21 none, behind one that was mended", UNSUPPORTED, () -> house.mend(2));
        Check.same("21 the second one", 1, house.mend(1));
        Check.same("21 each as it was told", "= .", house.tile(0, 2, 1) + " " + house.tile(1, 0, 1));
        Check.same("21 that one stays", "... ### ###", Check.row(house, 2, 0, 3) + " " + Check.row(house, 2, 1, 3) + " "
                + Check.row(house, 2, 2, 3));
    }

    private static void whereThereIsNothing() {
        Levelsmith house = new Levelsmith();
        Check.same("43 no levels", 0, house.levels());
        Check.same("47 no levels", true, house.isSound());
        Check.same("28 no deaths", 0, house.deaths());
        for (int x = 0; x < 12; x++) {
            for (int y = 0; y < 8; y++) {
                Check.same("38 no bot", 0, house.fell(x, y));
            }
        }
        house.level(3, 3, '#');
        Check.same("47 no level that can be won", true, house.isSound());
        Check.same("11 no exit", false, house.isWinnable(0));
        Check.same("18 no way", 0, house.ways(0));
        Check.same("20 no help will do", false, house.isWinnableWith(0, 'g') || house.isWinnableWith(0, 's')
                || house.isWinnableWith(0, 't'));
        Check.same("42 no shown level", false, house.isStolen(0, 0));
        Check.fails("12 no run", NONE, () -> house.frames(0));
        Check.fails("46 no state that is not stuck", NONE, () -> house.meanLeft(0));
        house.put(0, 0, 2, 'E');
        Check.same("16 the beginning alone is stuck", 1, house.softLocks(0));
        house.start(0, 0, 1);
        Check.same("14 no fall into an exit that bears nobody", 1, house.states(0));
        Check.same("11 it falls into the exit", true, house.isWinnable(0));
        Check.same("16 no stuck state", 0, house.softLocks(0));
        Check.same("45 no stuck state", 0.0f, house.stuckShare(0));
        for (char axis : "xyf".toCharArray()) {
            Check.fails("17 no stuck state, " + axis, NONE, () -> house.softLockAt(0, axis));
        }
        Check.same("19 nothing is needed", false, house.isNeeded(0, 'k') || house.isNeeded(0, 'h') || house.isNeeded(0, 's')
                || house.isNeeded(0, 'S'));
        Check.same("19 but an exit is", true, house.isNeeded(0, 'E'));
    }
}
