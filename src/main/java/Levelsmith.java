import java.util.ArrayList;
import java.util.Arrays;
import java.util.NoSuchElementException;

/** A maker of levels for games of moving. The document of its promises is ../shared/DOC.md. */
public final class Levelsmith {
    private static final int WIDEST = 12;
    private static final int HIGHEST = 8;
    private static final int SMALLEST = 3;
    private static final int CELLS = WIDEST * HIGHEST;
    private static final int MOST_LEVELS = 5;
    private static final int MOST_GUARDS = 3;
    private static final int MOST_INPUTS = 150;
    private static final int MOST_RUNS = 10;
    // More than 512 calls cannot show; what later calls answer is free.
    private static final int MOST_SHOWN = 512;
    private static final int MAKERS = 10;
    private static final int SLOTS = 6;
    private static final int LAST_FRAME_OF_GUARDS = 9999;
    private static final int MOST_LATE = 9;
    private static final int MOST_ERRORS = 100;
    private static final int MOST_TRIES = 30;
    private static final int BOT_FRAMES = 200;

    private static final int PHASES = 12;
    private static final int RISES = 3;
    private static final int SWITCHES = 2;
    private static final int SETS = 8;
    private static final int STATES = CELLS * PHASES * RISES * SWITCHES * SETS;
    private static final int INPUTS = 6;
    private static final int WORD = 64;
    private static final int HELD = 3;

    private static final int KEYS = 1;
    private static final int HAMMERS = 2;
    private static final int SPRINGS = 4;
    private static final int ALL_THINGS = KEYS + HAMMERS + SPRINGS;

    private static final String SIGNS = ".#=~^DcGgSkhsE";
    private static final char AIR = '.';
    private static final char WALL = '#';
    private static final char PLATE = '=';
    private static final char WATER = '~';
    private static final char SPIKES = '^';
    private static final char DOOR = 'D';
    private static final char CRACK = 'c';
    private static final char GATE = 'G';
    private static final char GRILL = 'g';
    private static final char SWITCH = 'S';
    private static final char KEY = 'k';
    private static final char HAMMER = 'h';
    private static final char SPRING = 's';
    private static final char EXIT = 'E';

    private static final char GOES_ON = 'p';
    private static final char WON = 'w';
    private static final char DEAD = 'd';

    private final ArrayList<Plan> plans = new ArrayList<Plan>();
    private final ArrayList<Run> runs = new ArrayList<Run>();
    private final ArrayList<Shown> shownOnes = new ArrayList<Shown>();
    private final Player[] savedPlayers = new Player[SLOTS];
    private final int[] savedLevels = new int[SLOTS];
    private final Grower grower = new Grower();
    private final Reach reach = new Reach();
    private final Probe probe = new Probe();
    private final Game game = new Game();
    private final Game replayed = new Game();
    private final Bot lastBot = new Bot();
    private int deathCount = 0;

    public Levelsmith() {
    }

    // Building

    public int level(int wide, int high, char sign) throws IllegalArgumentException, IllegalStateException {
        if (wide < SMALLEST || wide > WIDEST || high < SMALLEST || high > HIGHEST) {
            throw new IllegalArgumentException("a number is out of range");
        }
        checkSign(sign);
        checkRoomForLevel();
        Plan plan = new Plan();
        plan.wide = wide;
        plan.high = high;
        plan.startY = high - 1;
        plan.paint(0, 0, wide, high, sign);
        plans.add(plan);
        return plans.size() - 1;
    }

    public char put(int level, int x, int y, char sign) throws IndexOutOfBoundsException, IllegalArgumentException {
        Plan plan = planWithCell(level, x, y);
        checkSign(sign);
        char before = plan.tileAt(x, y);
        plan.lay(x, y, sign);
        plan.version++;
        return before;
    }

    public int fill(int level, int x, int y, int wide, int high, char sign)
            throws IndexOutOfBoundsException, IllegalArgumentException {
        Plan plan = planWithCell(level, x, y);
        // The room is subtracted, as a sum could go round.
        if (wide < 1 || wide > plan.wide - x || high < 1 || high > plan.high - y) {
            throw new IllegalArgumentException("the cells go beyond the level");
        }
        checkSign(sign);
        plan.version++;
        return plan.paint(x, y, wide, high, sign);
    }

    public char tile(int level, int x, int y) throws IndexOutOfBoundsException {
        return planWithCell(level, x, y).tileAt(x, y);
    }

    public int start(int level, int x, int y) throws IndexOutOfBoundsException {
        Plan plan = planWithCell(level, x, y);
        int before = plan.startCell();
        plan.startX = x;
        plan.startY = y;
        plan.version++;
        return before;
    }

    public int guard(int level, int x, int far, int y)
            throws IndexOutOfBoundsException, IllegalArgumentException, IllegalStateException {
        Plan plan = planWithCell(level, x, y);
        if (!isWayOfGuard(far) || x + far >= plan.wide) {
            throw new IllegalArgumentException("it cannot go so far");
        }
        if (plan.guards >= MOST_GUARDS) {
            throw new IllegalStateException("there are 3 guards");
        }
        plan.addGuard(x, far, y);
        plan.version++;
        return plan.guards;
    }

    public int guardAt(int level, int guard, int frame) throws IndexOutOfBoundsException, IllegalArgumentException {
        Plan plan = planAt(level);
        if (guard < 0 || guard >= plan.guards) {
            throw new IndexOutOfBoundsException("no such guard");
        }
        if (frame < 0 || frame > LAST_FRAME_OF_GUARDS) {
            throw new IllegalArgumentException("no such frame");
        }
        return plan.guardColumn(guard, frame % PHASES);
    }

    public int copy(int level) throws IndexOutOfBoundsException, IllegalStateException {
        Plan plan = planAt(level);
        checkRoomForLevel();
        Plan other = new Plan();
        other.become(plan);
        plans.add(other);
        return plans.size() - 1;
    }

    public int grow(int level, int seed) throws IndexOutOfBoundsException {
        Plan plan = planAt(level);
        plan.version++;
        return grower.regrow(plan, seed);
    }

    // What can be reached

    public boolean isWinnable(int level) throws IndexOutOfBoundsException {
        return reachOf(level).isWon();
    }

    public int frames(int level) throws IndexOutOfBoundsException, NoSuchElementException {
        return wonReachOf(level).runFrames;
    }

    public int routeAt(int level, int frame) throws IndexOutOfBoundsException, NoSuchElementException {
        Reach won = wonReachOf(level);
        if (frame < 0 || frame >= won.runFrames) {
            throw new IndexOutOfBoundsException("no such frame");
        }
        return won.inputOfRun(frame);
    }

    public int states(int level) throws IndexOutOfBoundsException {
        return reachOf(level).size();
    }

    public int framesTo(int level, int x, int y) throws IndexOutOfBoundsException, NoSuchElementException {
        planWithCell(level, x, y);
        int first = reachOf(level).firstInCell(x, y);
        if (first < 0) {
            throw new NoSuchElementException("no state is in this cell");
        }
        return reach.depthAt(first);
    }

    public int softLocks(int level) throws IndexOutOfBoundsException {
        return reachWithLeft(level).stuckCount();
    }

    public int softLockAt(int level, char axis)
            throws IndexOutOfBoundsException, IllegalArgumentException, NoSuchElementException {
        planAt(level);
        if (axis != 'f') {
            checkAxis(axis);
        }
        int first = reachWithLeft(level).firstStuck();
        if (first < 0) {
            throw new NoSuchElementException("no state is stuck");
        }
        return axis == 'f' ? reach.depthAt(first) : alongAxis(axis, reach.cellAt(first));
    }

    public int ways(int level) throws IndexOutOfBoundsException {
        return reachOf(level).setsThatWin();
    }

    public boolean isNeeded(int level, char sign)
            throws IndexOutOfBoundsException, IllegalArgumentException, NoSuchElementException {
        Plan plan = planAt(level);
        if (sign != KEY && sign != HAMMER && sign != SPRING && sign != SWITCH && sign != EXIT) {
            throw new IllegalArgumentException("none of these tiles");
        }
        wonReachOf(level);
        return !probe.canWinWithout(plan, sign);
    }

    public boolean isWinnableWith(int level, char help) throws IndexOutOfBoundsException, IllegalArgumentException {
        Plan plan = planAt(level);
        if (help == 'g') {
            return probe.canWinUnguarded(plan);
        }
        if (help == 's') {
            return probe.canWinWithout(plan, SPIKES);
        }
        if (help == 't') {
            return probe.canWin(plan, ALL_THINGS);
        }
        throw new IllegalArgumentException("no such help");
    }

    public int mend(int level) throws IndexOutOfBoundsException, UnsupportedOperationException {
        Plan plan = planAt(level);
        if (reachOf(level).isWon()) {
            return 0;
        }
        probe.findMending(plan, reach);
        if (probe.mendCell < 0) {
            throw new UnsupportedOperationException("no one change will do");
        }
        plan.lay(probe.mendCell % WIDEST, probe.mendCell / WIDEST, probe.mendSign);
        plan.version++;
        return 1;
    }

    public int mendAt(int level, char axis)
            throws IndexOutOfBoundsException, IllegalArgumentException, NoSuchElementException {
        Plan plan = planAt(level);
        checkAxis(axis);
        if (reachOf(level).isWon()) {
            throw new NoSuchElementException("the level can be won");
        }
        probe.findMending(plan, reach);
        if (probe.mendCell < 0) {
            throw new NoSuchElementException("no one change will do");
        }
        return alongAxis(axis, probe.mendCell);
    }

    public int rests(int level) throws IndexOutOfBoundsException, NoSuchElementException {
        Plan plan = planAt(level);
        return wonReachOf(level).countRests(plan);
    }

    public int longestAir(int level) throws IndexOutOfBoundsException, NoSuchElementException {
        Plan plan = planAt(level);
        return wonReachOf(level).longestUnrested(plan);
    }

    // Playing

    public int play(int level) throws IndexOutOfBoundsException {
        Plan plan = planAt(level);
        game.begin(level, plan);
        return plan.startCell();
    }

    public char input(int input) throws IllegalArgumentException, IllegalStateException {
        if (input < 0 || input >= INPUTS) {
            throw new IllegalArgumentException("no such input");
        }
        checkGameGoesOn();
        if (game.given >= MOST_INPUTS) {
            throw new IllegalStateException("150 inputs were given");
        }
        char end = game.give(planAt(game.level), input);
        if (end == DEAD) {
            deathCount++;
        }
        return end;
    }

    public int told(char what) throws IllegalArgumentException, IllegalStateException {
        if (what != 'x' && what != 'y' && what != 'a' && what != 's' && what != 'j' && what != 'f') {
            throw new IllegalArgumentException("no such letter");
        }
        checkGameGoesOn();
        if (what == 'a') {
            return game.player.found;
        }
        if (what == 's') {
            return game.player.on ? 1 : 0;
        }
        if (what == 'j') {
            return game.player.rise;
        }
        return what == 'f' ? game.given : alongAxis(what, game.player.cell());
    }

    public int deaths() {
        return deathCount;
    }

    public boolean save(int slot) throws IndexOutOfBoundsException, IllegalStateException {
        checkSlot(slot);
        checkGameGoesOn();
        Player saved = savedPlayers[slot];
        boolean wasUsed = saved != null;
        if (saved == null) {
            saved = new Player();
            savedPlayers[slot] = saved;
        }
        saved.become(game.player);
        savedLevels[slot] = game.level;
        return wasUsed;
    }

    public int load(int slot) throws IndexOutOfBoundsException, NoSuchElementException, UnsupportedOperationException {
        checkSlot(slot);
        Player saved = savedPlayers[slot];
        if (saved == null) {
            throw new NoSuchElementException("no game is in this slot");
        }
        int level = savedLevels[slot];
        Plan plan = planAt(level);
        if (!saved.canGoOn(plan)) {
            throw new UnsupportedOperationException("its state cannot go on");
        }
        game.beginAt(level, plan, saved);
        return level;
    }

    public int keep() throws UnsupportedOperationException, IllegalStateException {
        if (!game.hasEnded() || game.loaded) {
            throw new UnsupportedOperationException("no game has ended that was played from the beginning");
        }
        if (runs.size() >= MOST_RUNS) {
            throw new IllegalStateException("there are 10 runs");
        }
        Run run = new Run();
        run.level = game.level;
        run.version = planAt(game.level).version;
        run.end = game.end;
        run.inputs = Arrays.copyOf(game.inputs, Math.max(0, Math.min(game.given, MOST_INPUTS)));
        runs.add(run);
        return runs.size() - 1;
    }

    public int length(int run) throws IndexOutOfBoundsException {
        return runAt(run).inputs.length;
    }

    public char replay(int run) throws IndexOutOfBoundsException {
        Run kept = runAt(run);
        runAgain(kept, kept.inputs.length);
        return replayed.end;
    }

    public boolean isTrue(int run) throws IndexOutOfBoundsException {
        Run kept = runAt(run);
        runAgain(kept, kept.inputs.length);
        return replayed.end == kept.end && replayed.given == kept.inputs.length;
    }

    public boolean isPatched(int run) throws IndexOutOfBoundsException {
        Run kept = runAt(run);
        return planAt(kept.level).version != kept.version;
    }

    public int ghost(int run, int frame, char axis)
            throws IndexOutOfBoundsException, IllegalArgumentException, NoSuchElementException {
        Run kept = runAt(run);
        if (frame < 0 || frame > kept.inputs.length) {
            throw new IllegalArgumentException("no such frame");
        }
        checkAxis(axis);
        runAgain(kept, frame);
        if (!replayed.goesOn()) {
            throw new NoSuchElementException("it has ended then");
        }
        return alongAxis(axis, replayed.player.cell());
    }

    // Bots and shown levels

    public int bot(int level, int late, int errs, int seed, int tries)
            throws IndexOutOfBoundsException, IllegalArgumentException, NoSuchElementException {
        planAt(level);
        if (late < 0 || late > MOST_LATE || errs < 0 || errs > MOST_ERRORS || tries < 1 || tries > MOST_TRIES) {
            throw new IllegalArgumentException("a number is out of range");
        }
        wonReachOf(level);
        lastBot.begin(late, errs, seed);
        Reach known = reachWithLeft(level);
        int wins = 0;
        for (int played = 0; played < tries; played++) {
            wins += lastBot.wins(known) ? 1 : 0;
        }
        return wins;
    }

    public int fell(int x, int y) throws IndexOutOfBoundsException {
        if (x < 0 || x >= WIDEST || y < 0 || y >= HIGHEST) {
            throw new IndexOutOfBoundsException("no such cell");
        }
        return lastBot.falls[x + WIDEST * y];
    }

    public int hardest(char axis) throws IllegalArgumentException, NoSuchElementException {
        checkAxis(axis);
        int cell = lastBot.hardestCell();
        if (cell < 0) {
            throw new NoSuchElementException("it never died");
        }
        return alongAxis(axis, cell);
    }

    public int publish(int level, int maker, int run)
            throws IndexOutOfBoundsException, IllegalArgumentException, UnsupportedOperationException {
        Plan plan = planAt(level);
        Run kept = runAt(run);
        checkMaker(maker);
        if (kept.level != level) {
            throw new UnsupportedOperationException("the run is not on this level");
        }
        runAgain(kept, kept.inputs.length);
        if (replayed.end != WON) {
            throw new UnsupportedOperationException("the run does not win now");
        }
        show(plan, maker, replayed.given);
        return shownOnes.size();
    }

    public int makerAt(int rank) throws IndexOutOfBoundsException {
        if (rank < 0 || rank >= shownOnes.size()) {
            throw new IndexOutOfBoundsException("no such rank");
        }
        int answer = 0;
        for (int at = 0; at < shownOnes.size(); at++) {
            if (rankOf(at) == rank) {
                Shown shown = shownOnes.get(at);
                answer = 1000 * shown.maker + shown.frames;
            }
        }
        return answer;
    }

    public boolean isStolen(int level, int maker) throws IndexOutOfBoundsException, IllegalArgumentException {
        Plan plan = planAt(level);
        checkMaker(maker);
        int same = shownLike(plan);
        return same >= 0 && same < shownOnes.size() && shownOnes.get(same).maker != maker;
    }

    // Figures

    public int levels() {
        return plans.size();
    }

    public long checksum(int level) throws IndexOutOfBoundsException {
        return planAt(level).sum();
    }

    public float stuckShare(int level) throws IndexOutOfBoundsException {
        Reach known = reachWithLeft(level);
        int all = known.size();
        return all < 1 ? 0.0f : (float) known.stuckCount() / (float) all;
    }

    public double meanLeft(int level) throws IndexOutOfBoundsException, NoSuchElementException {
        wonReachOf(level);
        Reach known = reachWithLeft(level);
        int freed = known.size() - known.stuckCount();
        return freed < 1 ? 0.0 : (double) known.sumOfLeft() / (double) freed;
    }

    public boolean isSound() {
        for (int level = 0; level < plans.size(); level++) {
            Reach known = reachWithLeft(level);
            if (known.isWon() && !isRunSound(level, known)) {
                return false;
            }
        }
        return true;
    }

    // What the calls above have in common

    private Plan planAt(int level) {
        if (level < 0 || level >= plans.size()) {
            throw new IndexOutOfBoundsException("no such level");
        }
        return plans.get(level);
    }

    private Plan planWithCell(int level, int x, int y) {
        Plan plan = planAt(level);
        if (!plan.has(x, y)) {
            throw new IndexOutOfBoundsException("no such cell");
        }
        return plan;
    }

    private static void checkSlot(int slot) {
        if (slot < 0 || slot >= SLOTS) {
            throw new IndexOutOfBoundsException("no such slot");
        }
    }

    private Run runAt(int run) {
        if (run < 0 || run >= runs.size()) {
            throw new IndexOutOfBoundsException("no such run");
        }
        return runs.get(run);
    }

    private void checkRoomForLevel() {
        if (plans.size() >= MOST_LEVELS) {
            throw new IllegalStateException("there are 5 levels");
        }
    }

    private void checkGameGoesOn() {
        if (!game.goesOn()) {
            throw new IllegalStateException("no game goes on");
        }
    }

    private static void checkSign(char sign) {
        if (SIGNS.indexOf(sign) < 0) {
            throw new IllegalArgumentException("no such tile");
        }
    }

    private static void checkAxis(char axis) {
        if (axis != 'x' && axis != 'y') {
            throw new IllegalArgumentException("no such letter");
        }
    }

    private static void checkMaker(int maker) {
        if (maker < 0 || maker >= MAKERS) {
            throw new IllegalArgumentException("no such maker");
        }
    }

    private static int alongAxis(char axis, int cell) {
        return axis == 'x' ? cell % WIDEST : cell / WIDEST;
    }

    private static boolean isWayOfGuard(int far) {
        return far >= 0 && far <= 3 || far == 6;
    }

    private Reach reachOf(int level) {
        Plan plan = planAt(level);
        if (!reach.isOf(level, plan.version)) {
            reach.explore(plan);
            reach.level = level;
            reach.version = plan.version;
        }
        return reach;
    }

    private Reach wonReachOf(int level) {
        Reach found = reachOf(level);
        if (!found.isWon()) {
            throw new NoSuchElementException("the level cannot be won");
        }
        return found;
    }

    private Reach reachWithLeft(int level) {
        Reach found = reachOf(level);
        found.findLeft();
        return found;
    }

    private void runAgain(Run kept, int most) {
        Plan plan = planAt(kept.level);
        replayed.begin(kept.level, plan);
        replayed.giveAll(plan, kept.inputs, most);
    }

    private boolean isRunSound(int level, Reach known) {
        Plan plan = planAt(level);
        int length = known.runFrames;
        replayed.begin(level, plan);
        for (int frame = 0; frame < length && replayed.goesOn(); frame++) {
            replayed.give(plan, known.inputOfRun(frame));
        }
        return replayed.end == WON && replayed.given == length && known.leftAt(0) == length;
    }

    private int shownLike(Plan plan) {
        for (int at = 0; at < shownOnes.size(); at++) {
            if (shownOnes.get(at).plan.isLike(plan)) {
                return at;
            }
        }
        return -1;
    }

    private void show(Plan plan, int maker, int frames) {
        int same = shownLike(plan);
        if (same >= 0 && same < shownOnes.size()) {
            Shown shown = shownOnes.get(same);
            if (shown.maker != maker) {
                throw new UnsupportedOperationException("another maker shows the same");
            }
            shown.frames = Math.min(shown.frames, frames);
            return;
        }
        if (shownOnes.size() >= MOST_SHOWN) {
            throw new UnsupportedOperationException("more are shown than 512 calls can show");
        }
        Shown shown = new Shown();
        shown.plan.become(plan);
        shown.maker = maker;
        shown.frames = frames;
        shownOnes.add(shown);
    }

    private int rankOf(int place) {
        int ahead = 0;
        if (place >= 0 && place < shownOnes.size()) {
            int frames = shownOnes.get(place).frames;
            for (int at = 0; at < shownOnes.size(); at++) {
                int others = shownOnes.get(at).frames;
                if (others < frames || others == frames && at < place) {
                    ahead++;
                }
            }
        }
        return ahead;
    }

    /** A level: its tiles, its start and its guards. */
    private static final class Plan {
        int wide = SMALLEST;
        int high = SMALLEST;
        int startX = 0;
        int startY = 0;
        int guards = 0;
        /** One more with each change, so that answers and runs of before are known to be of before. */
        int version = 0;
        final char[] tiles = new char[CELLS];
        final int[] guardX = new int[MOST_GUARDS];
        final int[] guardFar = new int[MOST_GUARDS];
        final int[] guardY = new int[MOST_GUARDS];

        void become(Plan other) {
            wide = other.wide;
            high = other.high;
            startX = other.startX;
            startY = other.startY;
            guards = other.guards;
            System.arraycopy(other.tiles, 0, tiles, 0, CELLS);
            System.arraycopy(other.guardX, 0, guardX, 0, MOST_GUARDS);
            System.arraycopy(other.guardFar, 0, guardFar, 0, MOST_GUARDS);
            System.arraycopy(other.guardY, 0, guardY, 0, MOST_GUARDS);
        }

        boolean has(int x, int y) {
            return x >= 0 && x < wide && x < WIDEST && y >= 0 && y < high && y < HIGHEST;
        }

        int startCell() {
            return startX + WIDEST * startY;
        }

        /** Beyond the sides and above all is solid, below all is nothing. */
        char tileAt(int x, int y) {
            if (x < 0 || x >= wide || x >= WIDEST || y < 0) {
                return WALL;
            }
            return y < high && y < HIGHEST ? tiles[x + WIDEST * y] : AIR;
        }

        void lay(int x, int y, char sign) {
            if (has(x, y)) {
                tiles[x + WIDEST * y] = sign;
            }
        }

        int paint(int left, int top, int columns, int rows, char sign) {
            int changed = 0;
            for (int y = top; y < high && y - top < rows; y++) {
                for (int x = left; x < wide && x - left < columns; x++) {
                    changed += tileAt(x, y) == sign ? 0 : 1;
                    lay(x, y, sign);
                }
            }
            return changed;
        }

        void exchange(char sign, char other) {
            for (int cell = 0; cell < CELLS; cell++) {
                if (tiles[cell] == sign) {
                    tiles[cell] = other;
                }
            }
        }

        int countUnlike(Plan other) {
            int unlike = 0;
            for (int y = 0; y < high; y++) {
                for (int x = 0; x < wide; x++) {
                    unlike += tileAt(x, y) == other.tileAt(x, y) ? 0 : 1;
                }
            }
            return unlike;
        }

        boolean isLike(Plan other) {
            if (wide != other.wide || high != other.high || guards != other.guards
                    || startX != other.startX || startY != other.startY || countUnlike(other) > 0) {
                return false;
            }
            for (int guard = 0; guard < guards && guard < MOST_GUARDS; guard++) {
                if (guardX[guard] != other.guardX[guard] || guardFar[guard] != other.guardFar[guard]
                        || guardY[guard] != other.guardY[guard]) {
                    return false;
                }
            }
            return true;
        }

        void addGuard(int x, int far, int y) {
            if (guards >= 0 && guards < MOST_GUARDS) {
                guardX[guards] = x;
                guardFar[guards] = far;
                guardY[guards] = y;
                guards++;
            }
        }

        int guardColumn(int guard, int phase) {
            if (guard < 0 || guard >= MOST_GUARDS) {
                return -1;
            }
            int far = guardFar[guard];
            if (far < 1) {
                return guardX[guard];
            }
            int gone = phase % (2 * far);
            return guardX[guard] + (gone <= far ? gone : 2 * far - gone);
        }

        boolean isGuarded(int x, int y, int phase) {
            for (int guard = 0; guard < guards && guard < MOST_GUARDS; guard++) {
                if (guardY[guard] == y && guardColumn(guard, phase) == x) {
                    return true;
                }
            }
            return false;
        }

        /** Behind how many frames all guards are again where they were. */
        int period() {
            boolean threes = false;
            int twos = 1;
            for (int guard = 0; guard < guards && guard < MOST_GUARDS; guard++) {
                int far = guardFar[guard];
                threes = threes || far == 3 || far == 6;
                if (far == 2 || far == 6) {
                    twos = 4;
                } else if (far > 0) {
                    twos = Math.max(twos, 2);
                }
            }
            return threes ? 3 * twos : twos;
        }

        long sum() {
            long sum = startX + 31L * startY;
            for (int y = 0; y < high; y++) {
                for (int x = 0; x < wide; x++) {
                    sum = 31L * sum + tileAt(x, y);
                }
            }
            for (int guard = 0; guard < guards && guard < MOST_GUARDS; guard++) {
                sum = 31L * sum + guardX[guard] + 100L * guardFar[guard] + 1000L * guardY[guard];
            }
            return sum;
        }
    }

    /** A player in a level: a state, and how a frame changes it. */
    private static final class Player {
        int x = 0;
        int y = 0;
        int found = 0;
        boolean on = false;
        int rise = 0;
        int phase = 0;

        void begin(Plan plan, int things) {
            x = plan.startX;
            y = plan.startY;
            found = things;
            on = false;
            rise = 0;
            phase = 0;
        }

        void become(Player other) {
            x = other.x;
            y = other.y;
            found = other.found;
            on = other.on;
            rise = other.rise;
            phase = other.phase;
        }

        int cell() {
            return x + WIDEST * y;
        }

        int code() {
            return (((found * SWITCHES + (on ? 1 : 0)) * RISES + rise) * PHASES + phase) * CELLS + cell();
        }

        void decode(int code) {
            x = code % CELLS % WIDEST;
            y = code % CELLS / WIDEST;
            int rest = code / CELLS;
            phase = rest % PHASES;
            rest = rest / PHASES;
            rise = rest % RISES;
            rest = rest / RISES;
            on = rest % SWITCHES == 1;
            found = rest / SWITCHES;
        }

        /** Lets a frame go by, and tells how it ends. */
        char pass(Plan plan, int input) {
            int fromX = x;
            int fromY = y;
            riseOrFall(plan, input >= HELD);
            if (y >= plan.high) {
                return DEAD;
            }
            int aside = x + input % HELD - 1;
            if (!isSolid(plan.tileAt(aside, y))) {
                x = aside;
            }
            if (x != fromX || y != fromY) {
                touch(plan.tileAt(x, y));
            }
            phase = (phase + 1) % PHASES;
            char tile = plan.tileAt(x, y);
            if (tile == SPIKES || plan.isGuarded(x, y, phase)) {
                return DEAD;
            }
            return tile == EXIT ? WON : GOES_ON;
        }

        boolean stands(Plan plan) {
            char below = plan.tileAt(x, y + 1);
            return below == PLATE || isSolid(below);
        }

        boolean canGoOn(Plan plan) {
            char tile = plan.tileAt(x, y);
            return !isSolid(tile) && tile != SPIKES && !plan.isGuarded(x, y, phase);
        }

        private void riseOrFall(Plan plan, boolean held) {
            boolean inWater = plan.tileAt(x, y) == WATER;
            boolean standing = stands(plan);
            int riseIfUp = -1;
            if (held && inWater) {
                riseIfUp = 0;
            } else if (held && rise > 0) {
                riseIfUp = rise - 1;
            } else if (held && standing) {
                riseIfUp = (found & SPRINGS) != 0 ? 2 : 1;
            }
            rise = 0;
            if (riseIfUp < 0) {
                y += standing ? 0 : 1;
            } else if (!isSolid(plan.tileAt(x, y - 1))) {
                y--;
                rise = riseIfUp;
            }
        }

        private boolean isSolid(char tile) {
            if (tile == DOOR) {
                return (found & KEYS) == 0;
            }
            if (tile == CRACK) {
                return (found & HAMMERS) == 0;
            }
            if (tile == GATE) {
                return !on;
            }
            return tile == WALL || tile == GRILL && on;
        }

        private void touch(char tile) {
            if (tile == SWITCH) {
                on = !on;
            } else if (tile == KEY) {
                found = found | KEYS;
            } else if (tile == HAMMER) {
                found = found | HAMMERS;
            } else if (tile == SPRING) {
                found = found | SPRINGS;
            }
        }
    }

    /** States by their codes, each once, in the order in which they were found. */
    private static final class Codes {
        final int[] codes = new int[STATES];
        final int[] places = new int[STATES];
        int count = 0;

        /** A place is checked by the code that stands there, so that no clearing of the places is needed. */
        int placeOf(int code) {
            if (code < 0 || code >= STATES) {
                return -1;
            }
            int place = places[code];
            return place >= 0 && place < count && place < STATES && codes[place] == code ? place : -1;
        }

        int add(int code) {
            if (code < 0 || code >= STATES || count < 0 || count >= STATES) {
                return -1;
            }
            codes[count] = code;
            places[code] = count;
            count++;
            return count - 1;
        }

        int codeAt(int place) {
            return place >= 0 && place < count && place < STATES ? codes[place] : 0;
        }
    }

    /** All states of one level, how each follows from others, and what is left from each. */
    private static final class Reach {
        private static final int TO_DEATH = -1;
        private static final int TO_WIN = -2;
        // What follows a state stands in two numbers, three inputs in each, for the sake of room.
        private static final int PARTS = 2;
        private static final int PART_INPUTS = 3;
        private static final int BITS = 20;
        private static final long MASK = (1L << BITS) - 1;

        int level = -1;
        int version = -1;
        /** The frames of the shortest run, 0 if there is none. */
        int runFrames = 0;
        private final Codes codes = new Codes();
        private final int[] before = new int[STATES];
        private final long[] next = new long[STATES * PARTS];
        private final int[] left = new int[STATES];
        private final Player from = new Player();
        private final Player player = new Player();
        private final int[] firstInCells = new int[CELLS];
        private int winAt = -1;
        private int winInput = 0;
        private boolean isLeftFound = false;

        boolean isOf(int number, int change) {
            return level == number && version == change;
        }

        void explore(Plan plan) {
            codes.count = 0;
            winAt = -1;
            isLeftFound = false;
            Arrays.fill(firstInCells, -1);
            player.begin(plan, 0);
            noteState(codes.add(player.code()), -1, 0);
            for (int at = 0; at < codes.count && at < STATES; at++) {
                from.decode(codes.codeAt(at));
                for (int input = 0; input < INPUTS; input++) {
                    player.become(from);
                    char end = player.pass(plan, input);
                    noteNext(at, input, arrive(end, at, input));
                }
            }
            runFrames = winAt < 0 ? 0 : depthAt(winAt) + 1;
        }

        private int arrive(char end, int at, int input) {
            if (end == DEAD) {
                return TO_DEATH;
            }
            if (end == WON) {
                if (winAt < 0) {
                    winAt = at;
                    winInput = input;
                }
                return TO_WIN;
            }
            int code = player.code();
            int place = codes.placeOf(code);
            if (place < 0) {
                place = codes.add(code);
                noteState(place, at, input);
            }
            return place;
        }

        /** Notes how the player's state was found: from which one, -1 for the first one, and by which input. */
        private void noteState(int place, int at, int input) {
            if (place < 0 || place >= STATES) {
                return;
            }
            before[place] = at < 0 ? -1 : INPUTS * at + input;
            int cell = player.cell();
            if (cell >= 0 && cell < CELLS && firstInCells[cell] < 0) {
                firstInCells[cell] = place;
            }
        }

        private void noteNext(int at, int input, int to) {
            if (at >= 0 && at < STATES && input >= 0 && input < INPUTS) {
                int part = PARTS * at + input / PART_INPUTS;
                int shift = input % PART_INPUTS * BITS;
                next[part] = next[part] & ~(MASK << shift) | (long) (to - TO_WIN) << shift;
            }
        }

        int nextOf(int at, int input) {
            if (at < 0 || at >= codes.count || at >= STATES || input < 0 || input >= INPUTS) {
                return TO_DEATH;
            }
            long part = next[PARTS * at + input / PART_INPUTS];
            return (int) (part >> input % PART_INPUTS * BITS & MASK) + TO_WIN;
        }

        /** The state from which a state was found; -1 for the first one. */
        private int stateBefore(int at) {
            return at < 0 || at >= STATES || before[at] < 0 ? -1 : before[at] / INPUTS;
        }

        private int inputBefore(int at) {
            return at < 0 || at >= STATES || before[at] < 0 ? 0 : before[at] % INPUTS;
        }

        boolean isWon() {
            return winAt >= 0;
        }

        int size() {
            return codes.count;
        }

        int inputOfRun(int frame) {
            int at = winAt;
            int input = winInput;
            for (int later = runFrames - 1; later > frame && later > 0; later--) {
                input = inputBefore(at);
                at = stateBefore(at);
            }
            return input;
        }

        /** In how many frames a state is found first. */
        int depthAt(int at) {
            int frames = 0;
            int back = stateBefore(at);
            while (back >= 0 && frames < STATES) {
                frames++;
                back = stateBefore(back);
            }
            return frames;
        }

        int cellAt(int at) {
            return codes.codeAt(at) % CELLS;
        }

        /** The first state in a cell; -1 if there is none, or no such cell. */
        int firstInCell(int x, int y) {
            boolean isCell = x >= 0 && x < WIDEST && y >= 0 && y < HIGHEST;
            return isCell ? firstInCells[x + WIDEST * y] : -1;
        }

        /** A frame looks at no cells but those round the one where it begins. */
        boolean isLookedAt(int x, int y) {
            for (int near = 0; near < 9; near++) {
                if (firstInCell(x + near % 3 - 1, y + near / 3 - 1) >= 0) {
                    return true;
                }
            }
            return false;
        }

        int setsThatWin() {
            int sets = 0;
            for (int at = 0; at < codes.count; at++) {
                for (int input = 0; input < INPUTS; input++) {
                    if (nextOf(at, input) == TO_WIN) {
                        sets = sets | 1 << codes.codeAt(at) / (STATES / SETS);
                    }
                }
            }
            return Integer.bitCount(sets);
        }

        /** Goes over all states until nothing is shorter; from behind, as ways to win lead to later states mostly. */
        void findLeft() {
            if (isLeftFound) {
                return;
            }
            isLeftFound = true;
            for (int at = 0; at < codes.count && at < STATES; at++) {
                left[at] = 0;
            }
            boolean changes = true;
            for (int round = 0; changes && round <= STATES; round++) {
                changes = false;
                for (int at = Math.min(codes.count, STATES) - 1; at >= 0; at--) {
                    int fewest = leftBy(at, bestInput(at));
                    changes = changes || fewest != left[at];
                    left[at] = fewest;
                }
            }
        }

        /** Frames that are left from a state by an input first; 0 if this way no win is known. */
        private int leftBy(int at, int input) {
            int to = nextOf(at, input);
            if (to == TO_WIN) {
                return 1;
            }
            int more = leftAt(to);
            return more > 0 ? more + 1 : 0;
        }

        int leftAt(int at) {
            return at >= 0 && at < codes.count && at < STATES ? left[at] : 0;
        }

        /** The lowest input by which fewest frames are left; 0 if the state is stuck. */
        int bestInput(int at) {
            int best = 0;
            int fewest = 0;
            for (int input = 0; input < INPUTS; input++) {
                int frames = leftBy(at, input);
                if (frames > 0 && (fewest == 0 || frames < fewest)) {
                    best = input;
                    fewest = frames;
                }
            }
            return best;
        }

        int stuckCount() {
            int stuck = 0;
            for (int at = 0; at < codes.count; at++) {
                stuck += leftAt(at) == 0 ? 1 : 0;
            }
            return stuck;
        }

        int firstStuck() {
            for (int at = 0; at < codes.count; at++) {
                if (leftAt(at) == 0) {
                    return at;
                }
            }
            return -1;
        }

        long sumOfLeft() {
            long sum = 0;
            for (int at = 0; at < codes.count; at++) {
                sum += leftAt(at);
            }
            return sum;
        }

        int countRests(Plan plan) {
            int rests = 0;
            int at = winAt;
            for (int frame = runFrames - 1; frame > 0; frame--) {
                rests += isRest(plan, at) ? 1 : 0;
                at = stateBefore(at);
            }
            return rests;
        }

        int longestUnrested(Plan plan) {
            int row = 1;
            int longest = 1;
            int at = winAt;
            for (int frame = runFrames - 1; frame > 0; frame--) {
                row = isRest(plan, at) ? 0 : row + 1;
                longest = Math.max(longest, row);
                at = stateBefore(at);
            }
            return longest;
        }

        private boolean isRest(Plan plan, int at) {
            player.decode(codes.codeAt(at));
            return player.stands(plan);
        }
    }

    /** Tells whether levels can be won that are not as they stand. */
    private static final class Probe {
        /** The cell that mends a level, -1 if none does, and its tile then. */
        int mendCell = -1;
        char mendSign = PLATE;
        private int mendLevel = -1;
        private int mendVersion = -1;
        private final Plan trial = new Plan();
        private final int[] row = new int[STATES];
        private final long[] seen = new long[STATES / WORD];
        private int count = 0;
        private final Player from = new Player();
        private final Player player = new Player();

        /** Phases in which all guards are in the same places are taken as one: the way on from them is the same. */
        boolean canWin(Plan plan, int things) {
            int period = Math.max(1, plan.period());
            count = 0;
            Arrays.fill(seen, 0L);
            player.begin(plan, things);
            addIfNew(player.code());
            for (int at = 0; at < count && at < STATES; at++) {
                from.decode(row[at]);
                for (int input = 0; input < INPUTS; input++) {
                    player.become(from);
                    char end = player.pass(plan, input);
                    if (end == WON) {
                        return true;
                    }
                    player.phase = player.phase % period;
                    if (end == GOES_ON) {
                        addIfNew(player.code());
                    }
                }
            }
            return false;
        }

        private void addIfNew(int code) {
            int word = code / WORD;
            if (code < 0 || word >= seen.length || count < 0 || count >= STATES) {
                return;
            }
            long bit = 1L << code % WORD;
            if ((seen[word] & bit) == 0) {
                seen[word] = seen[word] | bit;
                row[count] = code;
                count++;
            }
        }

        boolean canWinWithout(Plan plan, char sign) {
            trial.become(plan);
            trial.exchange(sign, AIR);
            return canWin(trial, 0);
        }

        boolean canWinUnguarded(Plan plan) {
            trial.become(plan);
            trial.guards = 0;
            return canWin(trial, 0);
        }

        /** Looks for the first change of one cell that mends, once in a level as it stands. */
        void findMending(Plan plan, Reach reach) {
            if (reach.isOf(mendLevel, mendVersion)) {
                return;
            }
            mendLevel = reach.level;
            mendVersion = reach.version;
            mendCell = -1;
            trial.become(plan);
            for (int cell = 0; cell < CELLS && mendCell < 0; cell++) {
                int x = cell % WIDEST;
                int y = cell / WIDEST;
                // A change that no frame looks at changes nothing.
                if (plan.has(x, y) && plan.tileAt(x, y) != EXIT && reach.isLookedAt(x, y)) {
                    mendSign = canWinIfPut(x, y, PLATE) ? PLATE : AIR;
                    mendCell = mendSign == PLATE || canWinIfPut(x, y, AIR) ? cell : -1;
                }
            }
        }

        private boolean canWinIfPut(int x, int y, char sign) {
            char before = trial.tileAt(x, y);
            if (before == sign) {
                return false;
            }
            trial.lay(x, y, sign);
            boolean wins = canWin(trial, 0);
            trial.lay(x, y, before);
            return wins;
        }
    }

    /** Draws by a seed. */
    private static final class Dice {
        int z = 1;

        int draw(int modulo) {
            z = z * 1103515245 + 12345;
            return modulo > 0 ? (z >>> 16) % modulo : 0;
        }
    }

    /** Grows levels by draws. */
    private static final class Grower {
        private final Dice dice = new Dice();
        private final Plan before = new Plan();
        private int ground = 0;
        private boolean hasKeys = false;

        int regrow(Plan plan, int seed) {
            before.become(plan);
            dice.z = seed;
            plan.guards = 0;
            ground = plan.high - 2;
            hasKeys = false;
            for (int x = 0; x < plan.wide; x++) {
                growColumn(plan, x);
            }
            plan.lay(plan.wide - 1, ground - 1, EXIT);
            plan.startX = 0;
            plan.startY = plan.high - 3;
            return plan.countUnlike(before);
        }

        private void growColumn(Plan plan, int x) {
            boolean isDrawn = x >= 2 && x < plan.wide - 1;
            boolean isPit = false;
            if (isDrawn) {
                ground = ground + dice.draw(3) - 1;
                ground = Math.min(Math.max(ground, 2), plan.high - 1);
                isPit = dice.draw(6) == 0;
            }
            for (int y = 0; y < plan.high; y++) {
                plan.lay(x, y, !isPit && y >= ground ? WALL : AIR);
            }
            if (isDrawn && !isPit) {
                plan.lay(x, ground - 1, drawTile());
            }
        }

        private char drawTile() {
            int drawn = dice.draw(8);
            if (drawn == 0) {
                hasKeys = true;
                return KEY;
            }
            if (drawn == 1 && hasKeys) {
                return DOOR;
            }
            if (drawn == 2) {
                return SPIKES;
            }
            return drawn == 3 ? WATER : AIR;
        }
    }

    /** A game on a level: that of the player, or a run that is played again. */
    private static final class Game {
        final Player player = new Player();
        /** The first inputs, as many as a player may give; a told run can be longer, but is not kept. */
        final int[] inputs = new int[MOST_INPUTS];
        int level = -1;
        int given = 0;
        char end = GOES_ON;
        boolean loaded = false;

        void begin(int number, Plan plan) {
            player.begin(plan, 0);
            level = number;
            given = 0;
            end = GOES_ON;
            loaded = false;
        }

        void beginAt(int number, Plan plan, Player saved) {
            begin(number, plan);
            player.become(saved);
            loaded = true;
        }

        boolean goesOn() {
            return level >= 0 && end == GOES_ON;
        }

        boolean hasEnded() {
            return level >= 0 && end != GOES_ON;
        }

        char give(Plan plan, int input) {
            if (given >= 0 && given < MOST_INPUTS) {
                inputs[given] = input;
            }
            given++;
            end = player.pass(plan, input);
            return end;
        }

        void giveAll(Plan plan, int[] row, int most) {
            for (int frame = 0; frame < row.length && frame < most && end == GOES_ON; frame++) {
                give(plan, row[frame]);
            }
        }
    }

    /** A run that was kept. */
    private static final class Run {
        int level = -1;
        int version = 0;
        char end = GOES_ON;
        int[] inputs = new int[0];
    }

    /** A player that sees late and errs, and where it died. */
    private static final class Bot {
        final int[] falls = new int[CELLS];
        private final int[] been = new int[BOT_FRAMES];
        private final Dice dice = new Dice();
        private int late = 0;
        private int errs = 0;

        void begin(int framesLate, int errors, int seed) {
            late = framesLate;
            errs = errors;
            dice.z = seed;
            Arrays.fill(falls, 0);
        }

        boolean wins(Reach reach) {
            int at = 0;
            for (int frame = 0; frame < BOT_FRAMES; frame++) {
                been[frame] = at;
                int seen = Math.max(0, frame - late);
                int to = reach.nextOf(at, choose(reach, seen < BOT_FRAMES ? been[seen] : 0));
                if (to == Reach.TO_WIN) {
                    return true;
                }
                if (to < 0) {
                    fallFrom(reach.cellAt(at));
                    return false;
                }
                at = to;
            }
            return false;
        }

        private int choose(Reach reach, int seen) {
            int slip = dice.draw(100);
            int other = dice.draw(INPUTS);
            return slip < errs || reach.leftAt(seen) == 0 ? other : reach.bestInput(seen);
        }

        private void fallFrom(int cell) {
            if (cell >= 0 && cell < CELLS) {
                falls[cell]++;
            }
        }

        int hardestCell() {
            int hardest = -1;
            int most = 0;
            for (int cell = 0; cell < CELLS; cell++) {
                if (falls[cell] > most) {
                    hardest = cell;
                    most = falls[cell];
                }
            }
            return hardest;
        }
    }

    /** A level that is shown, as it was then. */
    private static final class Shown {
        final Plan plan = new Plan();
        int maker = 0;
        int frames = 0;
    }
}
