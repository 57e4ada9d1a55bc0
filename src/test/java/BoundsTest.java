import java.util.NoSuchElementException;

/**
 * The range of each argument of each call: all that is allowed is taken, from the lowest to the highest, and what lies
 * beyond on each side is refused.
 */
public final class BoundsTest {
    private static final Class<?> INDEX = IndexOutOfBoundsException.class;
    private static final Class<?> ARGUMENT = IllegalArgumentException.class;
    private static final Class<?> STATE = IllegalStateException.class;
    private static final Class<?> NONE = NoSuchElementException.class;
    private static final String TILES = ".#=~^DcGgSkhsE";

    private interface House {
        Levelsmith built();
    }

    private interface WithNumber {
        Object on(Levelsmith house, int number);
    }

    private interface WithSign {
        Object on(Levelsmith house, char sign);
    }

    private interface InCell {
        Object on(Levelsmith house, int x, int y);
    }

    public static void main(String[] args) {
        sizes();
        levelNumbers();
        levelsThatAreFull();
        cells();
        fills();
        signs();
        guards();
        guardFrames();
        seeds();
        routes();
        inputs();
        slots();
        runNumbers();
        ghostFrames();
        botNumbers();
        fellCells();
        makers();
        ranks();
        Check.end("BoundsTest");
    }

    private static Levelsmith corridor() {
        Levelsmith house = new Levelsmith();
        Check.draw(house, "....", "@..E", "####");
        return house;
    }

    /** What a call answers, or the name of what it throws. */
    private static String answer(Check.Call call) {
        try {
            return String.valueOf(call.answer());
        } catch (Exception e) {
            return Check.nameOf(e);
        }
    }

    private static void isTaken(String what, boolean due, Class<?> otherwise, Check.Call call) {
        String got = answer(call);
        boolean isThrown = got.contains("Exception");
        Check.same(what, due ? "taken" : otherwise.getName(), isThrown ? got : "taken");
    }

    /** Each number on a house of its own, as what was taken may have changed it. */
    private static void range(String what, Class<?> otherwise, int lowest, int highest, House house, WithNumber call) {
        int[] far = {Integer.MIN_VALUE, Integer.MIN_VALUE + 1, -65536, -256, -100, lowest - 3, lowest - 2, lowest - 1,
            highest + 1, highest + 2, highest + 3, highest + 96, highest + 256, highest + 65536, Integer.MAX_VALUE - 1,
            Integer.MAX_VALUE};
        for (int number : far) {
            Levelsmith built = house.built();
            isTaken(what + " " + number, false, otherwise, () -> call.on(built, number));
        }
        for (int at = lowest; at <= highest; at++) {
            int number = at;
            Levelsmith built = house.built();
            isTaken(what + " " + number, true, otherwise, () -> call.on(built, number));
        }
    }

    private static void sizes() {
        range("2 wide", ARGUMENT, 3, 12, Levelsmith::new, (house, number) -> house.level(number, 3, '.'));
        range("2 wide and high", ARGUMENT, 3, 12, Levelsmith::new, (house, number) -> house.level(number, 8, 'E'));
        range("2 high", ARGUMENT, 3, 8, Levelsmith::new, (house, number) -> house.level(3, number, '.'));
        range("2 high and wide", ARGUMENT, 3, 8, Levelsmith::new, (house, number) -> house.level(12, number, '~'));
        for (int wide = 3; wide <= 12; wide++) {
            for (int high = 3; high <= 8; high++) {
                size(wide, high);
            }
        }
    }

    private static void size(int wide, int high) {
        String what = wide + " wide, " + high + " high";
        Levelsmith house = new Levelsmith();
        Check.same("2 number, " + what, 0, house.level(wide, high, 'h'));
        Check.same("2 first tile, " + what, 'h', house.tile(0, 0, 0));
        Check.same("2 last tile, " + what, 'h', house.tile(0, wide - 1, high - 1));
        Check.fails("2 no wider, " + what, INDEX, () -> house.tile(0, wide, 0));
        Check.fails("2 no higher, " + what, INDEX, () -> house.tile(0, 0, high));
        Check.same("2 all of one tile, " + what, 0, house.fill(0, 0, 0, wide, high, 'h'));
        Check.same("2 how many cells, " + what, wide * high, house.fill(0, 0, 0, wide, high, '.'));
        Check.same("6 the start at first, " + what, 12 * (high - 1), house.start(0, 0, 0));
        Check.fails("7 no guard at first, " + what, INDEX, () -> house.guardAt(0, 0, 0));
    }

    /** As many levels as are asked for, all of which can be won, with a run on each. */
    private static Levelsmith withLevels(int levels) {
        Levelsmith house = new Levelsmith();
        for (int level = 0; level < levels; level++) {
            house.level(3, 3, '.');
            house.fill(level, 0, 2, 3, 1, '#');
            house.start(level, 0, 1);
            house.put(level, 2, 1, 'E');
            house.put(level, level % 3, 0, level < 3 ? 'k' : 'h');
            house.guard(level, 0, 0, 2);
            house.play(level);
            house.input(2);
            house.input(2);
            house.keep();
        }
        return house;
    }

    private static void eachLevel(String what, WithNumber call) {
        for (int levels : new int[] {0, 1, 3, 5}) {
            range(what + " of " + levels, INDEX, 0, levels - 1, () -> withLevels(levels), call);
        }
    }

    private static void levelNumbers() {
        eachLevel("3 put", (house, level) -> house.put(level, 0, 0, '#'));
        eachLevel("4 fill", (house, level) -> house.fill(level, 0, 0, 1, 1, '#'));
        eachLevel("5 tile", (house, level) -> house.tile(level, 0, 0));
        eachLevel("6 start", (house, level) -> house.start(level, 0, 0));
        eachLevel("7 guard", (house, level) -> house.guard(level, 0, 0, 0));
        eachLevel("8 guardAt", (house, level) -> house.guardAt(level, 0, 0));
        eachLevel("10 grow", (house, level) -> house.grow(level, 0));
        eachLevel("11 isWinnable", (house, level) -> house.isWinnable(level));
        eachLevel("12 frames", (house, level) -> house.frames(level));
        eachLevel("13 routeAt", (house, level) -> house.routeAt(level, 0));
        eachLevel("14 states", (house, level) -> house.states(level));
        eachLevel("15 framesTo", (house, level) -> house.framesTo(level, 0, 1));
        eachLevel("16 softLocks", (house, level) -> house.softLocks(level));
        eachLevel("18 ways", (house, level) -> house.ways(level));
        eachLevel("19 isNeeded", (house, level) -> house.isNeeded(level, 'E'));
        eachLevel("20 isWinnableWith", (house, level) -> house.isWinnableWith(level, 't'));
        eachLevel("21 mend", (house, level) -> house.mend(level));
        eachLevel("23 rests", (house, level) -> house.rests(level));
        eachLevel("24 longestAir", (house, level) -> house.longestAir(level));
        eachLevel("25 play", (house, level) -> house.play(level));
        eachLevel("37 bot", (house, level) -> house.bot(level, 0, 0, 0, 1));
        eachLevel("40 publish", (house, level) -> house.publish(level, 0, Math.max(0, Math.min(level, 4))));
        eachLevel("42 isStolen", (house, level) -> house.isStolen(level, 0));
        eachLevel("44 checksum", (house, level) -> house.checksum(level));
        eachLevel("45 stuckShare", (house, level) -> house.stuckShare(level));
        eachLevel("46 meanLeft", (house, level) -> house.meanLeft(level));
        range("9 copy", INDEX, 0, 3, () -> withLevels(4), (house, level) -> house.copy(level));
        range("17 softLockAt", INDEX, 0, 4, BoundsTest::closed, (house, level) -> house.softLockAt(level, 'x'));
        range("22 mendAt", INDEX, 0, 4, BoundsTest::closed, (house, level) -> house.mendAt(level, 'x'));
    }

    /** Five levels that cannot be won, but mended. */
    private static Levelsmith closed() {
        Levelsmith house = new Levelsmith();
        Check.draw(house, "###", "@#E", "###");
        for (int level = 1; level < 5; level++) {
            house.copy(0);
        }
        return house;
    }

    private static void levelsThatAreFull() {
        for (int copies = 0; copies <= 4; copies++) {
            Levelsmith house = new Levelsmith();
            house.level(3, 3, '.');
            for (int level = 1; level < 5; level++) {
                Check.same("2 and 9: number", level, level <= copies ? house.copy(0) : house.level(3, 3, '.'));
                Check.same("43 levels", level + 1, house.levels());
            }
            Check.fails("2 a sixth", STATE, () -> house.level(3, 3, '.'));
            Check.fails("9 a sixth", STATE, () -> house.copy(0));
            Check.same("43 levels yet", 5, house.levels());
            Check.fails("5 no sixth", INDEX, () -> house.tile(5, 0, 0));
        }
    }

    private static Levelsmith wet(int wide, int high) {
        Levelsmith house = new Levelsmith();
        house.level(wide, high, '~');
        return house;
    }

    private static void eachCell(String what, int wide, int high, InCell call) {
        int[] columns = {Integer.MIN_VALUE, -12, -2, -1, 0, 1, wide - 2, wide - 1, wide, wide + 1, 12, 13, 24,
            Integer.MAX_VALUE};
        int[] rows = {Integer.MIN_VALUE, -8, -1, 0, 1, high - 2, high - 1, high, high + 1, 8, 9, 96, Integer.MAX_VALUE};
        Levelsmith house = wet(wide, high);
        for (int x : columns) {
            for (int y : rows) {
                boolean isCell = x >= 0 && x < wide && y >= 0 && y < high;
                isTaken(what + " " + x + " " + y + " of " + wide + " " + high, isCell, INDEX, () -> call.on(house, x, y));
            }
        }
    }

    private static void cells() {
        int[][] sizes = {{3, 3}, {12, 8}, {3, 8}, {12, 3}, {7, 5}};
        for (int[] size : sizes) {
            eachCell("3 put", size[0], size[1], (house, x, y) -> house.put(0, x, y, '='));
            eachCell("4 fill", size[0], size[1], (house, x, y) -> house.fill(0, x, y, 1, 1, '='));
            eachCell("5 tile", size[0], size[1], (house, x, y) -> house.tile(0, x, y));
            eachCell("6 start", size[0], size[1], (house, x, y) -> house.start(0, x, y));
            // In water each cell is that of a state.
            eachCell("15 framesTo", size[0], size[1], (house, x, y) -> house.framesTo(0, x, y));
        }
        eachCell("7 guard", 3, 3, (house, x, y) -> {
            int guards = house.guard(0, x, 0, y);
            house.grow(0, 1);
            return guards;
        });
        eachCell("7 guard", 12, 8, (house, x, y) -> {
            int guards = house.guard(0, x, 0, y);
            house.grow(0, 1);
            return guards;
        });
        putsOneCell();
    }

    private static void putsOneCell() {
        for (int x = 0; x < 12; x++) {
            Levelsmith house = wet(12, 8);
            for (int y = 0; y < 8; y++) {
                Check.same("3 before " + x + " " + y, '~', house.put(0, x, y, 'k'));
                Check.same("3 behind " + x + " " + y, 'k', house.tile(0, x, y));
                Check.same("6 start " + x + " " + y, y == 0 ? 84 : x + 12 * (y - 1), house.start(0, x, y));
            }
            Check.same("3 no other cell but those of column " + x, 8, house.fill(0, 0, 0, 12, 8, '~'));
        }
    }

    private static void fills() {
        int[][] sizes = {{3, 3}, {12, 8}, {5, 4}};
        for (int[] size : sizes) {
            for (int x : new int[] {0, 1, size[0] - 1}) {
                for (int y : new int[] {0, 1, size[1] - 1}) {
                    fillsFrom(size[0], size[1], x, y);
                }
            }
        }
    }

    private static void fillsFrom(int wide, int high, int x, int y) {
        String from = " from " + x + " " + y + " of " + wide + " " + high;
        int columns = wide - x;
        int rows = high - y;
        range("4 wide" + from, ARGUMENT, 1, columns, () -> wet(wide, high), (house, n) -> house.fill(0, x, y, n, 1, '#'));
        range("4 high" + from, ARGUMENT, 1, rows, () -> wet(wide, high), (house, n) -> house.fill(0, x, y, 1, n, '#'));
        for (int n = 1; n <= columns; n++) {
            Levelsmith house = wet(wide, high);
            Check.same("4 cells" + from, n * rows, house.fill(0, x, y, n, rows, '#'));
            Check.same("4 the last cell" + from, '#', house.tile(0, x + n - 1, high - 1));
            Check.same("4 how many were laid" + from, n * rows, house.fill(0, 0, 0, wide, high, '~'));
        }
    }

    /** All signs up to 255, and those that would look like allowed ones if they lost a part of their bits. */
    private static void signs(String what, String allowed, House house, WithSign call) {
        StringBuilder signs = new StringBuilder();
        for (char sign = 0; sign < 256; sign++) {
            signs.append(sign);
        }
        for (char sign : allowed.toCharArray()) {
            signs.append((char) (sign + 256)).append((char) (sign + 32768));
        }
        signs.append('\u0130').append('\uffff');
        Levelsmith built = house.built();
        for (int i = 0; i < signs.length(); i++) {
            char sign = signs.charAt(i);
            Levelsmith on = i % 200 == 199 ? house.built() : built;
            built = on;
            isTaken(what + " " + (int) sign, allowed.indexOf(sign) >= 0, ARGUMENT, () -> call.on(on, sign));
        }
    }

    private static void signs() {
        for (char sign : TILES.toCharArray()) {
            Levelsmith house = new Levelsmith();
            Check.same("2 a level of " + sign, 0, house.level(3, 3, sign));
            Check.same("2 its tile", sign, house.tile(0, 1, 1));
        }
        for (char sign = 0; sign < 300; sign++) {
            char tile = sign;
            if (TILES.indexOf(tile) < 0) {
                Check.fails("2 a level of " + (int) tile, ARGUMENT, () -> new Levelsmith().level(3, 3, tile));
            }
        }
        signs("3 put", TILES, BoundsTest::corridor, (house, sign) -> house.put(0, 0, 0, sign));
        signs("4 fill", TILES, BoundsTest::corridor, (house, sign) -> house.fill(0, 0, 0, 4, 1, sign));
        signs("17 softLockAt", "xyf", BoundsTest::closed, (house, sign) -> house.softLockAt(0, sign));
        signs("19 isNeeded", "khsSE", BoundsTest::corridor, (house, sign) -> house.isNeeded(0, sign));
        signs("20 isWinnableWith", "gst", BoundsTest::corridor, (house, sign) -> house.isWinnableWith(0, sign));
        signs("22 mendAt", "xy", BoundsTest::closed, (house, sign) -> house.mendAt(0, sign));
        signs("27 told", "xyasjf", BoundsTest::playing, (house, sign) -> house.told(sign));
        signs("36 ghost", "xy", () -> withLevels(1), (house, sign) -> house.ghost(0, 1, sign));
        signs("39 hardest", "xy", BoundsTest::fallen, (house, sign) -> house.hardest(sign));
    }

    private static Levelsmith playing() {
        Levelsmith house = corridor();
        house.play(0);
        return house;
    }

    /** Behind a bot that died: late as it is, it walks onto the spikes. */
    private static Levelsmith fallen() {
        Levelsmith house = new Levelsmith();
        Check.draw(house, "....", "@.^E", "####");
        house.bot(0, 1, 0, 1, 1);
        return house;
    }

    private static void guards() {
        for (int wide = 3; wide <= 12; wide++) {
            for (int x = 0; x < wide; x++) {
                Levelsmith house = wet(wide, 3);
                for (int far = -2; far <= 13; far++) {
                    guard(house, wide, x, far);
                }
                guard(house, wide, x, Integer.MAX_VALUE);
                guard(house, wide, x, Integer.MIN_VALUE);
                guard(house, wide, x, Integer.MAX_VALUE - x + 1);
            }
        }
        for (int guards = 0; guards <= 3; guards++) {
            int had = guards;
            range("8 guard of " + guards, INDEX, 0, guards - 1, () -> guarded(had), (house, guard) ->
                    house.guardAt(0, guard, 0));
        }
        Levelsmith house = wet(12, 8);
        for (int guard = 0; guard < 3; guard++) {
            Check.same("7 how many", guard + 1, house.guard(0, 0, 6, 0));
        }
        Check.fails("7 a fourth", STATE, () -> house.guard(0, 0, 6, 0));
        int other = house.copy(0);
        Check.fails("7 a fourth of a copy", STATE, () -> house.guard(other, 0, 6, 0));
        house.grow(0, 1);
        Check.same("7 one again", 1, house.guard(0, 11, 0, 7));
    }

    private static Levelsmith guarded(int guards) {
        Levelsmith house = wet(4, 3);
        for (int guard = 0; guard < guards; guard++) {
            house.guard(0, guard, 1, guard);
        }
        return house;
    }

    private static void guard(Levelsmith house, int wide, int x, int far) {
        boolean isWay = far == 0 || far == 1 || far == 2 || far == 3 || far == 6;
        boolean isIn = isWay && x + far <= wide - 1;
        isTaken("7 from " + x + " far " + far + " of " + wide, isIn, ARGUMENT, () -> house.guard(0, x, far, 1));
        if (isIn) {
            Check.same("8 at first", x, house.guardAt(0, 0, 0));
            Check.same("8 at the far end", x + far, house.guardAt(0, 0, far));
            Check.same("8 back", x, house.guardAt(0, 0, 2 * far));
            Check.same("8 in the last frame but three", x, house.guardAt(0, 0, 9996));
            house.grow(0, 1);
        }
    }

    private static void guardFrames() {
        int[] ways = {0, 1, 2, 3, 6};
        for (int far : ways) {
            Levelsmith house = new Levelsmith();
            for (int frame = 0; frame <= 9999; frame++) {
                if (frame % 400 == 0) {
                    house = wet(12, 8);
                    house.guard(0, 5, far, 7);
                }
                int gone = far == 0 ? 0 : frame % (2 * far);
                Check.same("8 far " + far + " in " + frame, 5 + Math.min(gone, 2 * far - gone), house.guardAt(0, 0, frame));
            }
        }
        int[] wrong = {-1, -2, -12, -10000, Integer.MIN_VALUE, 10000, 10001, 10012, 65536, Integer.MAX_VALUE};
        Levelsmith house = guarded(1);
        for (int frame : wrong) {
            Check.fails("8 frame " + frame, ARGUMENT, () -> house.guardAt(0, 0, frame));
        }
    }

    private static void seeds() {
        int[] seeds = {0, 1, -1, Integer.MIN_VALUE, Integer.MAX_VALUE, 65535, 65536, -65536};
        for (int seed : seeds) {
            isTaken("10 seed " + seed, true, ARGUMENT, () -> withLevels(1).grow(0, seed));
            isTaken("37 seed " + seed, true, ARGUMENT, () -> withLevels(1).bot(0, 0, 50, seed, 3));
        }
    }

    private static void routes() {
        // Winning takes 1, 3 and 9 frames here.
        Levelsmith exit = wet(3, 3);
        exit.put(0, 0, 1, 'E');
        range("13 of 1 frame", INDEX, 0, 0, () -> exit, (house, frame) -> house.routeAt(0, frame));
        range("13 of 3 frames", INDEX, 0, 2, BoundsTest::corridor, (house, frame) -> house.routeAt(0, frame));
        Levelsmith far = new Levelsmith();
        Check.draw(far, "##########", "@........E", "##########");
        range("13 of 9 frames", INDEX, 0, 8, () -> far, (house, frame) -> house.routeAt(0, frame));
        range("13 of none", NONE, 0, -1, BoundsTest::closed, (house, frame) -> house.routeAt(0, frame));
    }

    private static void inputs() {
        range("26 input", ARGUMENT, 0, 5, BoundsTest::playing, (house, input) -> house.input(input));
    }

    private static void slots() {
        range("29 save", INDEX, 0, 5, BoundsTest::playing, (house, slot) -> house.save(slot));
        range("30 load", INDEX, 0, 5, BoundsTest::savedInAll, (house, slot) -> house.load(slot));
        for (int slot = 0; slot < 6; slot++) {
            Levelsmith house = playing();
            Check.same("29 none was there, " + slot, false, house.save(slot));
            Check.same("29 one was there, " + slot, true, house.save(slot));
            for (int other = 0; other < 6; other++) {
                int from = other;
                isTaken("30 slot " + other + " where " + slot + " is saved", other == slot, NONE, () -> house.load(from));
            }
        }
        Levelsmith house = savedInAll();
        for (int slot = 0; slot < 6; slot++) {
            house.load(slot);
            Check.same("30 each slot has its own, " + slot, slot, house.told('x'));
        }
    }

    private static Levelsmith savedInAll() {
        Levelsmith house = new Levelsmith();
        Check.draw(house, "......", "@.....", "######");
        house.play(0);
        for (int slot = 0; slot < 6; slot++) {
            house.save(slot);
            house.input(2);
        }
        return house;
    }

    private static Levelsmith withRuns(int runs) {
        Levelsmith house = corridor();
        house.play(0);
        Check.give(house, "222");
        for (int run = 0; run < runs; run++) {
            Check.same("31 its number", run, house.keep());
        }
        return house;
    }

    private static void eachRun(String what, WithNumber call) {
        for (int runs : new int[] {0, 1, 9, 10}) {
            range(what + " of " + runs, INDEX, 0, runs - 1, () -> withRuns(runs), call);
        }
    }

    private static void runNumbers() {
        eachRun("32 length", (house, run) -> house.length(run));
        eachRun("33 replay", (house, run) -> house.replay(run));
        eachRun("34 isTrue", (house, run) -> house.isTrue(run));
        eachRun("35 isPatched", (house, run) -> house.isPatched(run));
        eachRun("36 ghost", (house, run) -> house.ghost(run, 0, 'x'));
        eachRun("40 publish", (house, run) -> house.publish(0, 0, run));
        Levelsmith nine = withRuns(9);
        Check.same("31 the tenth", 9, nine.keep());
        Check.fails("31 the eleventh", STATE, () -> nine.keep());
        nine.play(0);
        Check.give(nine, "222");
        Check.fails("31 the eleventh, of another game", STATE, () -> nine.keep());
        Check.fails("32 no eleventh", INDEX, () -> nine.length(10));
    }

    private static void ghostFrames() {
        for (int late : new int[] {0, 1, 20, 147}) {
            Levelsmith house = corridor();
            house.play(0);
            Check.give(house, "1".repeat(late) + "222");
            house.keep();
            int length = late + 3;
            Check.same("32 its length", length, house.length(0));
            house.put(0, 3, 1, '.');
            for (int frame = 0; frame <= length; frame++) {
                Check.same("36 x " + frame, Math.max(0, frame - late), house.ghost(0, frame, 'x'));
            }
            for (int frame : new int[] {-1, length + 1, length + 2, 151, Integer.MIN_VALUE, Integer.MAX_VALUE}) {
                Check.fails("36 frame " + frame + " of " + length, ARGUMENT, () -> house.ghost(0, frame, 'x'));
            }
        }
    }

    private static void botNumbers() {
        range("37 late", ARGUMENT, 0, 9, BoundsTest::corridor, (house, late) -> house.bot(0, late, 0, 1, 1));
        range("37 errors", ARGUMENT, 0, 100, BoundsTest::corridor, (house, errs) -> house.bot(0, 0, errs, 1, 1));
        range("37 tries", ARGUMENT, 1, 30, BoundsTest::corridor, (house, tries) -> house.bot(0, 0, 0, 1, tries));
        for (int tries = 1; tries <= 30; tries++) {
            Check.same("37 all of " + tries, tries, corridor().bot(0, 9, 0, 1, tries));
        }
    }

    private static void fellCells() {
        Levelsmith house = fallen();
        int[] columns = {Integer.MIN_VALUE, -1, 0, 1, 2, 10, 11, 12, 13, Integer.MAX_VALUE};
        int[] rows = {Integer.MIN_VALUE, -1, 0, 1, 6, 7, 8, 9, Integer.MAX_VALUE};
        for (int x : columns) {
            for (int y : rows) {
                boolean isCell = x >= 0 && x <= 11 && y >= 0 && y <= 7;
                isTaken("38 fell " + x + " " + y, isCell, INDEX, () -> house.fell(x, y));
                if (isCell) {
                    Check.same("38 how often, " + x + " " + y, x == 1 && y == 1 ? 1 : 0, house.fell(x, y));
                }
            }
        }
        fellInCorners();
    }

    /** In the largest level deaths are counted also in its first and in its last column and row. */
    private static void fellInCorners() {
        int[][] corners = {{0, 0}, {11, 0}, {0, 7}, {11, 7}};
        for (int[] corner : corners) {
            int x = corner[0];
            int y = corner[1];
            int aside = x == 0 ? 1 : 10;
            Levelsmith house = new Levelsmith();
            house.level(12, 8, '#');
            house.put(0, x, y, '~');
            house.put(0, aside, y, 'E');
            house.start(0, x, y);
            // Who stays meets the guard, who sinks below the lowest row dies, and aside is the exit.
            house.guard(0, x, 0, y);
            int wins = house.bot(0, 0, 100, 3, 30);
            Check.same("38 each one that did not win died there, " + x + " " + y, 30 - wins, house.fell(x, y));
            Check.same("39 there it died most often", x + " " + y, house.hardest('x') + " " + house.hardest('y'));
        }
    }

    private static void makers() {
        range("40 maker", ARGUMENT, 0, 9, () -> withLevels(1), (house, maker) -> house.publish(0, maker, 0));
        range("42 maker", ARGUMENT, 0, 9, () -> withLevels(1), (house, maker) -> house.isStolen(0, maker));
        for (int maker = 0; maker <= 9; maker++) {
            Levelsmith house = withLevels(1);
            Check.same("40 shown by " + maker, 1, house.publish(0, maker, 0));
            Check.same("41 shown by " + maker, 1000 * maker + 2, house.makerAt(0));
            for (int other = 0; other <= 9; other++) {
                Check.same("42 by " + maker + " and " + other, other != maker, house.isStolen(0, other));
            }
        }
    }

    private static void ranks() {
        for (int shown : new int[] {0, 1, 3, 5}) {
            range("41 rank of " + shown, INDEX, 0, shown - 1, () -> showing(shown), (house, rank) -> house.makerAt(rank));
        }
    }

    private static Levelsmith showing(int levels) {
        Levelsmith house = withLevels(5);
        for (int level = 0; level < levels; level++) {
            Check.same("40 how many", level + 1, house.publish(level, level, level));
        }
        return house;
    }
}
