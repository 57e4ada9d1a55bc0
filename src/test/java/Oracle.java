import java.util.ArrayList;
import java.util.Arrays;
import java.util.HashMap;
import java.util.HashSet;
import java.util.LinkedHashMap;
import java.util.List;
import java.util.Map;
import java.util.NoSuchElementException;
import java.util.Set;

/**
 * The document once more, written as plainly as the Java library allows and without a thought for room or speed.
 * OracleTest gives the same calls to it and to Levelsmith.
 */
public final class Oracle {
    private static final String TILES = ".#=~^DcGgSkhsE";

    private record Guard(int x, int far, int y) {
        int column(int frame) {
            List<Integer> way = new ArrayList<>();
            for (int i = 0; i <= far; i++) {
                way.add(x + i);
            }
            for (int i = far - 1; i > 0; i--) {
                way.add(x + i);
            }
            return way.get(frame % way.size());
        }
    }

    private record Cell(int x, int y) {
    }

    private record State(int x, int y, Set<Character> found, boolean on, int rise, int phase) {
    }

    /** What a frame leads to: 'p' with the next state, or 'w' or 'd'; found is what was found by then. */
    private record Turn(char end, State state, Set<Character> found) {
    }

    private record Found(int frames, State before, int input) {
    }

    private record Level(int wide, int high, Map<Cell, Character> tiles, Cell start, List<Guard> guards) {
        Level with(Cell cell, char sign) {
            Map<Cell, Character> changed = new HashMap<>(tiles);
            changed.put(cell, sign);
            return new Level(wide, high, changed, start, guards);
        }

        Level without(char sign) {
            Map<Cell, Character> changed = new HashMap<>(tiles);
            changed.replaceAll((cell, tile) -> tile == sign ? '.' : tile);
            return new Level(wide, high, changed, start, guards);
        }

        Level startingAt(Cell cell) {
            return new Level(wide, high, tiles, cell, guards);
        }

        Level guardedBy(List<Guard> others) {
            return new Level(wide, high, tiles, start, others);
        }
    }

    private static final class Kept {
        int level;
        List<Integer> inputs;
        char end;
        int changes;
    }

    private static final class Show {
        Level level;
        int maker;
        int frames;
    }

    /** All that a search over one level tells. */
    private static final class Search {
        final Map<State, Found> states = new LinkedHashMap<>();
        final Map<State, Integer> left = new HashMap<>();
        final Set<Set<Character>> sets = new HashSet<>();
        final List<Integer> route = new ArrayList<>();
        final List<State> way = new ArrayList<>();
        boolean won = false;
    }

    private final List<Level> levels = new ArrayList<>();
    private final List<Integer> changes = new ArrayList<>();
    private final Map<Level, Search> searches = new HashMap<>();
    private final Map<Integer, Integer> slotLevels = new HashMap<>();
    private final Map<Integer, State> slotStates = new HashMap<>();
    private final List<Kept> runs = new ArrayList<>();
    private final List<Show> shows = new ArrayList<>();
    private final Map<Cell, Integer> falls = new HashMap<>();
    private int gameLevel = -1;
    private State gameState;
    private char gameEnd = 'n';
    private boolean gameLoaded;
    private List<Integer> gameInputs = new ArrayList<>();
    private int dead = 0;
    private int z = 1;

    // The frame

    private static char tileOf(Level l, int x, int y) {
        if (x < 0 || x >= l.wide || y < 0) {
            return '#';
        }
        return y >= l.high ? ' ' : l.tiles.get(new Cell(x, y));
    }

    private static boolean solid(char tile, Set<Character> found, boolean on) {
        return switch (tile) {
            case '#' -> true;
            case 'D' -> !found.contains('k');
            case 'c' -> !found.contains('h');
            case 'G' -> !on;
            case 'g' -> on;
            default -> false;
        };
    }

    private static boolean bears(char tile, Set<Character> found, boolean on) {
        return tile == '=' || solid(tile, found, on);
    }

    private static State first(Level l, Set<Character> found) {
        return new State(l.start.x, l.start.y, found, false, 0, 0);
    }

    private static Turn turn(Level l, State s, int input) {
        int x = s.x;
        int y = s.y;
        int rise = s.rise;
        boolean up = false;
        boolean jump = input >= 3;
        char below = tileOf(l, x, y + 1);
        if (tileOf(l, x, y) == '~') {
            rise = 0;
            if (jump) {
                up = true;
            } else if (!bears(below, s.found, s.on)) {
                y++;
            }
        } else if (jump && rise > 0) {
            up = true;
            rise--;
        } else if (bears(below, s.found, s.on)) {
            rise = 0;
            if (jump) {
                up = true;
                rise = s.found.contains('s') ? 2 : 1;
            }
        } else {
            y++;
            rise = 0;
        }
        if (up) {
            if (solid(tileOf(l, x, y - 1), s.found, s.on)) {
                rise = 0;
            } else {
                y--;
            }
        }
        if (y == l.high) {
            return new Turn('d', null, s.found);
        }
        int aside = input % 3 == 0 ? x - 1 : input % 3 == 1 ? x : x + 1;
        if (!solid(tileOf(l, aside, y), s.found, s.on)) {
            x = aside;
        }
        Set<Character> found = s.found;
        boolean on = s.on;
        char tile = tileOf(l, x, y);
        if (x != s.x || y != s.y) {
            if (tile == 'S') {
                on = !on;
            }
            if ("khs".indexOf(tile) >= 0) {
                found = new HashSet<>(found);
                found.add(tile);
            }
        }
        int phase = s.phase == 11 ? 0 : s.phase + 1;
        if (tile == '^') {
            return new Turn('d', null, found);
        }
        for (Guard guard : l.guards) {
            if (guard.y == y && guard.column(phase) == x) {
                return new Turn('d', null, found);
            }
        }
        return new Turn(tile == 'E' ? 'w' : 'p', new State(x, y, found, on, rise, phase), found);
    }

    // Searching

    private Search search(Level l) {
        Search known = searches.get(l);
        if (known == null) {
            known = searchFrom(l, Set.of());
            searches.clear();
            searches.put(l, known);
        }
        return known;
    }

    private static Search searchFrom(Level l, Set<Character> atFirst) {
        Search search = new Search();
        State first = first(l, atFirst);
        search.states.put(first, new Found(0, null, -1));
        List<State> row = new ArrayList<>(List.of(first));
        State winner = null;
        Map<State, Set<State>> from = new HashMap<>();
        Set<State> near = new HashSet<>();
        for (int at = 0; at < row.size(); at++) {
            State state = row.get(at);
            for (int input = 0; input < 6; input++) {
                Turn turn = turn(l, state, input);
                if (turn.end == 'w') {
                    search.sets.add(turn.found);
                    near.add(state);
                    if (winner == null) {
                        winner = state;
                        search.route.add(input);
                    }
                }
                if (turn.end == 'p') {
                    from.computeIfAbsent(turn.state, s -> new HashSet<>()).add(state);
                    if (!search.states.containsKey(turn.state)) {
                        search.states.put(turn.state, new Found(search.states.get(state).frames + 1, state, input));
                        row.add(turn.state);
                    }
                }
            }
        }
        search.won = winner != null;
        for (State state = winner; state != null && state != first; state = search.states.get(state).before) {
            search.way.add(0, state);
            search.route.add(0, search.states.get(state).input);
        }
        for (int frames = 1; !near.isEmpty(); frames++) {
            Set<State> farther = new HashSet<>();
            for (State state : near) {
                if (!search.left.containsKey(state)) {
                    search.left.put(state, frames);
                    farther.addAll(from.getOrDefault(state, Set.of()));
                }
            }
            near = farther;
        }
        return search;
    }

    private static boolean winnable(Level l, Set<Character> atFirst) {
        Set<State> seen = new HashSet<>();
        List<State> row = new ArrayList<>();
        row.add(first(l, atFirst));
        seen.add(row.get(0));
        for (int at = 0; at < row.size(); at++) {
            for (int input = 0; input < 6; input++) {
                Turn turn = turn(l, row.get(at), input);
                if (turn.end == 'w') {
                    return true;
                }
                if (turn.end == 'p' && seen.add(turn.state)) {
                    row.add(turn.state);
                }
            }
        }
        return false;
    }

    private Level at(int level) {
        if (level < 0 || level >= levels.size()) {
            throw new IndexOutOfBoundsException();
        }
        return levels.get(level);
    }

    private Level at(int level, int x, int y) {
        Level l = at(level);
        if (x < 0 || x >= l.wide || y < 0 || y >= l.high) {
            throw new IndexOutOfBoundsException();
        }
        return l;
    }

    private Kept runAt(int run) {
        if (run < 0 || run >= runs.size()) {
            throw new IndexOutOfBoundsException();
        }
        return runs.get(run);
    }

    private Search won(int level) {
        Search search = search(at(level));
        if (!search.won) {
            throw new NoSuchElementException();
        }
        return search;
    }

    private static void argument(boolean fits) {
        if (!fits) {
            throw new IllegalArgumentException();
        }
    }

    private static void state(boolean fits) {
        if (!fits) {
            throw new IllegalStateException();
        }
    }

    private static void supported(boolean fits) {
        if (!fits) {
            throw new UnsupportedOperationException();
        }
    }

    private static void found(boolean fits) {
        if (!fits) {
            throw new NoSuchElementException();
        }
    }

    private static void tileSign(char sign) {
        argument(TILES.indexOf(sign) >= 0);
    }

    private void change(int level, Level changed) {
        levels.set(level, changed);
        changes.set(level, changes.get(level) + 1);
    }

    private int draw(int modulo) {
        z = (int) (z * 1103515245L + 12345L);
        return (int) ((z & 0xffffffffL) >> 16) % modulo;
    }

    // The face

    public int level(int wide, int high, char sign) {
        argument(wide >= 3 && wide <= 12 && high >= 3 && high <= 8);
        tileSign(sign);
        state(levels.size() < 5);
        Map<Cell, Character> tiles = new HashMap<>();
        for (int y = 0; y < high; y++) {
            for (int x = 0; x < wide; x++) {
                tiles.put(new Cell(x, y), sign);
            }
        }
        levels.add(new Level(wide, high, tiles, new Cell(0, high - 1), List.of()));
        changes.add(0);
        return levels.size() - 1;
    }

    public char put(int level, int x, int y, char sign) {
        Level l = at(level, x, y);
        tileSign(sign);
        change(level, l.with(new Cell(x, y), sign));
        return l.tiles.get(new Cell(x, y));
    }

    public int fill(int level, int x, int y, int wide, int high, char sign) {
        Level l = at(level, x, y);
        argument(wide >= 1 && high >= 1 && (long) x + wide <= l.wide && (long) y + high <= l.high);
        tileSign(sign);
        int others = 0;
        for (int i = 0; i < wide; i++) {
            for (int j = 0; j < high; j++) {
                Cell cell = new Cell(x + i, y + j);
                others += l.tiles.get(cell) == sign ? 0 : 1;
                l = l.with(cell, sign);
            }
        }
        change(level, l);
        return others;
    }

    public char tile(int level, int x, int y) {
        return at(level, x, y).tiles.get(new Cell(x, y));
    }

    public int start(int level, int x, int y) {
        Level l = at(level, x, y);
        change(level, l.startingAt(new Cell(x, y)));
        return l.start.x + 12 * l.start.y;
    }

    public int guard(int level, int x, int far, int y) {
        Level l = at(level, x, y);
        argument(List.of(0, 1, 2, 3, 6).contains(far) && x + far < l.wide);
        state(l.guards.size() < 3);
        List<Guard> guards = new ArrayList<>(l.guards);
        guards.add(new Guard(x, far, y));
        change(level, l.guardedBy(guards));
        return guards.size();
    }

    public int guardAt(int level, int guard, int frame) {
        Level l = at(level);
        if (guard < 0 || guard >= l.guards.size()) {
            throw new IndexOutOfBoundsException();
        }
        argument(frame >= 0 && frame <= 9999);
        return l.guards.get(guard).column(frame);
    }

    public int copy(int level) {
        Level l = at(level);
        state(levels.size() < 5);
        levels.add(l);
        changes.add(0);
        return levels.size() - 1;
    }

    public int grow(int level, int seed) {
        Level l = at(level);
        z = seed;
        Map<Cell, Character> tiles = new HashMap<>(l.tiles);
        tiles.replaceAll((cell, tile) -> '.');
        int ground = l.high - 2;
        boolean keys = false;
        for (int x = 0; x < l.wide; x++) {
            boolean pit = false;
            if (x > 1 && x < l.wide - 1) {
                ground += draw(3) - 1;
                ground = ground < 2 ? 2 : ground > l.high - 1 ? l.high - 1 : ground;
                pit = draw(6) == 0;
                if (!pit) {
                    int drawn = draw(8);
                    char tile = drawn == 0 ? 'k' : drawn == 1 && keys ? 'D' : drawn == 2 ? '^' : drawn == 3 ? '~' : '.';
                    keys = keys || tile == 'k';
                    tiles.put(new Cell(x, ground - 1), tile);
                }
            }
            for (int y = ground; y < l.high && !pit; y++) {
                tiles.put(new Cell(x, y), '#');
            }
        }
        tiles.put(new Cell(l.wide - 1, ground - 1), 'E');
        int others = 0;
        for (Cell cell : tiles.keySet()) {
            others += tiles.get(cell).equals(l.tiles.get(cell)) ? 0 : 1;
        }
        change(level, new Level(l.wide, l.high, tiles, new Cell(0, l.high - 3), List.of()));
        return others;
    }

    public boolean isWinnable(int level) {
        return search(at(level)).won;
    }

    public int frames(int level) {
        return won(level).route.size();
    }

    public int routeAt(int level, int frame) {
        List<Integer> route = won(level).route;
        if (frame < 0 || frame >= route.size()) {
            throw new IndexOutOfBoundsException();
        }
        return route.get(frame);
    }

    public int states(int level) {
        return search(at(level)).states.size();
    }

    public int framesTo(int level, int x, int y) {
        Level l = at(level, x, y);
        for (Map.Entry<State, Found> entry : search(l).states.entrySet()) {
            if (entry.getKey().x == x && entry.getKey().y == y) {
                return entry.getValue().frames;
            }
        }
        throw new NoSuchElementException();
    }

    public int softLocks(int level) {
        Search search = search(at(level));
        return search.states.size() - search.left.size();
    }

    public int softLockAt(int level, char axis) {
        Search search = search(at(level));
        argument(axis == 'x' || axis == 'y' || axis == 'f');
        for (State state : search.states.keySet()) {
            if (!search.left.containsKey(state)) {
                return axis == 'x' ? state.x : axis == 'y' ? state.y : search.states.get(state).frames;
            }
        }
        throw new NoSuchElementException();
    }

    public int ways(int level) {
        return search(at(level)).sets.size();
    }

    public boolean isNeeded(int level, char sign) {
        Level l = at(level);
        argument("khsSE".indexOf(sign) >= 0);
        won(level);
        return !winnable(l.without(sign), Set.of());
    }

    public boolean isWinnableWith(int level, char help) {
        Level l = at(level);
        argument(help == 'g' || help == 's' || help == 't');
        if (help == 'g') {
            return winnable(l.guardedBy(List.of()), Set.of());
        }
        return help == 's' ? winnable(l.without('^'), Set.of()) : winnable(l, Set.of('k', 'h', 's'));
    }

    private Level mended(Level l, List<Cell> where) {
        for (int y = 0; y < l.high; y++) {
            for (int x = 0; x < l.wide; x++) {
                Cell cell = new Cell(x, y);
                for (char sign : "=.".toCharArray()) {
                    char tile = l.tiles.get(cell);
                    if (tile != 'E' && tile != sign && winnable(l.with(cell, sign), Set.of())) {
                        where.add(cell);
                        return l.with(cell, sign);
                    }
                }
            }
        }
        return null;
    }

    public int mend(int level) {
        Level l = at(level);
        if (search(l).won) {
            return 0;
        }
        Level mended = mended(l, new ArrayList<>());
        supported(mended != null);
        change(level, mended);
        return 1;
    }

    public int mendAt(int level, char axis) {
        Level l = at(level);
        argument(axis == 'x' || axis == 'y');
        found(!search(l).won);
        List<Cell> where = new ArrayList<>();
        found(mended(l, where) != null);
        return axis == 'x' ? where.get(0).x : where.get(0).y;
    }

    /** For each frame of the shortest run, whether one rests behind it. */
    private List<Boolean> restsOf(int level) {
        Search search = won(level);
        List<Boolean> rests = new ArrayList<>();
        for (State s : search.way) {
            rests.add(bears(tileOf(at(level), s.x, s.y + 1), s.found, s.on));
        }
        rests.add(false);
        return rests;
    }

    public int rests(int level) {
        int rests = 0;
        for (boolean rest : restsOf(level)) {
            rests += rest ? 1 : 0;
        }
        return rests;
    }

    public int longestAir(int level) {
        int longest = 0;
        int row = 0;
        for (boolean rest : restsOf(level)) {
            row = rest ? 0 : row + 1;
            longest = Math.max(longest, row);
        }
        return longest;
    }

    public int play(int level) {
        Level l = at(level);
        gameLevel = level;
        gameState = first(l, Set.of());
        gameEnd = 'p';
        gameLoaded = false;
        gameInputs = new ArrayList<>();
        return l.start.x + 12 * l.start.y;
    }

    public char input(int input) {
        argument(input >= 0 && input < 6);
        state(gameEnd == 'p' && gameInputs.size() < 150);
        Turn turn = turn(levels.get(gameLevel), gameState, input);
        gameInputs.add(input);
        gameState = turn.state;
        gameEnd = turn.end;
        dead += turn.end == 'd' ? 1 : 0;
        return turn.end;
    }

    public int told(char what) {
        argument("xyasjf".indexOf(what) >= 0);
        state(gameEnd == 'p');
        return switch (what) {
            case 'x' -> gameState.x;
            case 'y' -> gameState.y;
            case 'a' -> (gameState.found.contains('k') ? 1 : 0) + (gameState.found.contains('h') ? 2 : 0)
                    + (gameState.found.contains('s') ? 4 : 0);
            case 's' -> gameState.on ? 1 : 0;
            case 'j' -> gameState.rise;
            default -> gameInputs.size();
        };
    }

    public int deaths() {
        return dead;
    }

    public boolean save(int slot) {
        if (slot < 0 || slot > 5) {
            throw new IndexOutOfBoundsException();
        }
        state(gameEnd == 'p');
        slotStates.put(slot, gameState);
        return slotLevels.put(slot, gameLevel) != null;
    }

    public int load(int slot) {
        if (slot < 0 || slot > 5) {
            throw new IndexOutOfBoundsException();
        }
        found(slotLevels.containsKey(slot));
        Level l = levels.get(slotLevels.get(slot));
        State s = slotStates.get(slot);
        char tile = tileOf(l, s.x, s.y);
        boolean guarded = false;
        for (Guard guard : l.guards) {
            guarded = guarded || guard.y == s.y && guard.column(s.phase) == s.x;
        }
        supported(!solid(tile, s.found, s.on) && tile != '^' && !guarded);
        gameLevel = slotLevels.get(slot);
        gameState = s;
        gameEnd = 'p';
        gameLoaded = true;
        gameInputs = new ArrayList<>();
        return gameLevel;
    }

    public int keep() {
        supported((gameEnd == 'w' || gameEnd == 'd') && !gameLoaded);
        state(runs.size() < 10);
        Kept run = new Kept();
        run.level = gameLevel;
        run.inputs = List.copyOf(gameInputs);
        run.end = gameEnd;
        run.changes = changes.get(gameLevel);
        runs.add(run);
        return runs.size() - 1;
    }

    public int length(int run) {
        return runAt(run).inputs.size();
    }

    /** The turns of a run as its level is now, up to its end. */
    private List<Turn> turnsOf(Kept run) {
        Level l = levels.get(run.level);
        List<Turn> turns = new ArrayList<>();
        turns.add(new Turn('p', first(l, Set.of()), Set.of()));
        for (int input : run.inputs) {
            Turn last = turns.get(turns.size() - 1);
            if (last.end == 'p') {
                turns.add(turn(l, last.state, input));
            }
        }
        return turns;
    }

    public char replay(int run) {
        List<Turn> turns = turnsOf(runAt(run));
        return turns.get(turns.size() - 1).end;
    }

    public boolean isTrue(int run) {
        Kept kept = runAt(run);
        return replay(run) == kept.end && turnsOf(kept).size() == kept.inputs.size() + 1;
    }

    public boolean isPatched(int run) {
        Kept kept = runAt(run);
        return kept.changes != changes.get(kept.level);
    }

    public int ghost(int run, int frame, char axis) {
        Kept kept = runAt(run);
        argument(frame >= 0 && frame <= kept.inputs.size() && (axis == 'x' || axis == 'y'));
        List<Turn> turns = turnsOf(kept);
        found(frame < turns.size() && turns.get(frame).end == 'p');
        return axis == 'x' ? turns.get(frame).state.x : turns.get(frame).state.y;
    }

    public int bot(int level, int late, int errs, int seed, int tries) {
        Level l = at(level);
        argument(late >= 0 && late <= 9 && errs >= 0 && errs <= 100 && tries >= 1 && tries <= 30);
        Search search = won(level);
        falls.clear();
        z = seed;
        int wins = 0;
        for (int game = 0; game < tries; game++) {
            List<State> been = new ArrayList<>(List.of(first(l, Set.of())));
            char end = 'p';
            for (int frame = 0; frame < 200 && end == 'p'; frame++) {
                State seen = been.get(Math.max(0, frame - late));
                boolean errs100 = draw(100) < errs;
                int other = draw(6);
                int input = errs100 || !search.left.containsKey(seen) ? other : best(l, search, seen);
                State from = been.get(frame);
                Turn turn = turn(l, from, input);
                end = turn.end;
                been.add(turn.state);
                if (end == 'd') {
                    falls.merge(new Cell(from.x, from.y), 1, Integer::sum);
                }
            }
            wins += end == 'w' ? 1 : 0;
        }
        return wins;
    }

    private static int best(Level l, Search search, State state) {
        for (int input = 0; input < 6; input++) {
            Turn turn = turn(l, state, input);
            int more = turn.end == 'w' ? 0 : turn.end == 'd' ? 1000000 : search.left.getOrDefault(turn.state, 1000000);
            if (more + 1 == search.left.get(state)) {
                return input;
            }
        }
        throw new AssertionError("no input is best");
    }

    public int fell(int x, int y) {
        if (x < 0 || x > 11 || y < 0 || y > 7) {
            throw new IndexOutOfBoundsException();
        }
        return falls.getOrDefault(new Cell(x, y), 0);
    }

    public int hardest(char axis) {
        argument(axis == 'x' || axis == 'y');
        found(!falls.isEmpty());
        Cell hardest = null;
        for (int y = 7; y >= 0; y--) {
            for (int x = 11; x >= 0; x--) {
                if (fell(x, y) > 0 && (hardest == null || fell(x, y) >= fell(hardest.x, hardest.y))) {
                    hardest = new Cell(x, y);
                }
            }
        }
        return axis == 'x' ? hardest.x : hardest.y;
    }

    public int publish(int level, int maker, int run) {
        Level l = at(level);
        Kept kept = runAt(run);
        argument(maker >= 0 && maker <= 9);
        supported(kept.level == level && replay(run) == 'w' && !isStolen(level, maker));
        int frames = turnsOf(kept).size() - 1;
        for (Show show : shows) {
            if (show.level.equals(l)) {
                show.frames = Math.min(show.frames, frames);
                return shows.size();
            }
        }
        Show show = new Show();
        show.level = l;
        show.maker = maker;
        show.frames = frames;
        shows.add(show);
        return shows.size();
    }

    public int makerAt(int rank) {
        if (rank < 0 || rank >= shows.size()) {
            throw new IndexOutOfBoundsException();
        }
        List<Show> ranked = new ArrayList<>(shows);
        ranked.sort((a, b) -> Integer.compare(a.frames, b.frames));
        return 1000 * ranked.get(rank).maker + ranked.get(rank).frames;
    }

    public boolean isStolen(int level, int maker) {
        Level l = at(level);
        argument(maker >= 0 && maker <= 9);
        for (Show show : shows) {
            if (show.level.equals(l) && show.maker != maker) {
                return true;
            }
        }
        return false;
    }

    public int levels() {
        return levels.size();
    }

    public long checksum(int level) {
        Level l = at(level);
        List<Long> terms = new ArrayList<>();
        for (int y = 0; y < l.high; y++) {
            for (int x = 0; x < l.wide; x++) {
                terms.add((long) l.tiles.get(new Cell(x, y)));
            }
        }
        for (Guard guard : l.guards) {
            terms.add(guard.x + 100L * guard.far + 1000L * guard.y);
        }
        long sum = l.start.x + 31L * l.start.y;
        for (long term : terms) {
            sum = 31 * sum + term;
        }
        return sum;
    }

    public float stuckShare(int level) {
        return (float) softLocks(level) / (float) states(level);
    }

    public double meanLeft(int level) {
        Search search = won(level);
        long sum = 0;
        for (int left : search.left.values()) {
            sum += left;
        }
        return (double) sum / (double) search.left.size();
    }

    public boolean isSound() {
        for (Level l : levels) {
            Search search = search(l);
            State state = first(l, Set.of());
            char end = 'p';
            for (int input : search.route) {
                if (end != 'p') {
                    return false;
                }
                Turn turn = turn(l, state, input);
                state = turn.state;
                end = turn.end;
            }
            if (search.won && (end != 'w' || search.route.size() != search.left.get(first(l, Set.of())))) {
                return false;
            }
        }
        return true;
    }

    @Override
    public String toString() {
        return Arrays.toString(levels.toArray());
    }
}
