import java.util.NoSuchElementException;

/** Promises 37 to 42: bots, where they died, and levels that are shown. */
public final class ShownTest {
    private static final Class<?> INDEX = IndexOutOfBoundsException.class;
    private static final Class<?> ARGUMENT = IllegalArgumentException.class;
    private static final Class<?> NONE = NoSuchElementException.class;
    private static final Class<?> UNSUPPORTED = UnsupportedOperationException.class;

    /** A step to the left wins, one to the right is death, and no jump leads anywhere. */
    private static final String[] FORK = {"####", "E@^#", "####"};
    /** From the column 1 one must jump over a hole, which is two deep. */
    private static final String[] HOLE = {"....", "@..E", "##.#"};
    private static final String[] CORRIDOR = {"....", "@..E", "####"};

    public static void main(String[] args) {
        botThatErrs();
        botThatSeesLate();
        botThatIsStuck();
        botOfLongGames();
        botExceptions();
        fell();
        hardest();
        publish();
        publishExceptions();
        makerAt();
        isStolen();
        Check.end("ShownTest");
    }

    private static Levelsmith drawn(String... rows) {
        Levelsmith house = new Levelsmith();
        Check.draw(house, rows);
        return house;
    }

    /** Plays the fork by hand: two draws in each frame, and one row of draws for all games. */
    private static int[] forkByHand(int errs, int seed, int tries) {
        int z = seed;
        int wins = 0;
        int deaths = 0;
        for (int game = 0; game < tries; game++) {
            int step = 1;
            for (int frame = 0; frame < 200 && step == 1; frame++) {
                z = z * 1103515245 + 12345;
                boolean slips = (z >>> 16) % 100 < errs;
                z = z * 1103515245 + 12345;
                step = slips ? (z >>> 16) % 6 % 3 : 0;
            }
            wins += step == 0 ? 1 : 0;
            deaths += step == 2 ? 1 : 0;
        }
        return new int[] {wins, deaths};
    }

    private static void botThatErrs() {
        Levelsmith house = drawn(FORK);
        int[] seeds = {0, 1, -1, 7, 123456789, Integer.MIN_VALUE, Integer.MAX_VALUE};
        for (int seed : seeds) {
            for (int errs : new int[] {0, 1, 30, 50, 99, 100}) {
                for (int tries : new int[] {1, 30}) {
                    int[] due = forkByHand(errs, seed, tries);
                    String call = "37 errs " + errs + ", seed " + seed + ", tries " + tries;
                    Check.same(call, due[0], house.bot(0, 0, errs, seed, tries));
                    Check.same("38 behind " + call, due[1], house.fell(1, 1));
                }
            }
        }
        Check.same("37 without errors it wins", 30, house.bot(0, 0, 0, 5, 30));
        Check.same("38 and never dies", 0, house.fell(1, 1));
    }

    private static void botThatSeesLate() {
        Levelsmith house = drawn(HOLE);
        Check.same("37 in time", 3, house.bot(0, 0, 0, 7, 3));
        // One frame late it walks over the hole, as it still sees the start, and jumps when it is falling already.
        Check.same("37 late", 0, house.bot(0, 1, 0, 7, 3));
        Check.same("38 in the hole", 3, house.fell(2, 2));
        Check.same("39 in the hole", "2 2", house.hardest('x') + " " + house.hardest('y'));
        Check.same("37 late where nothing is in the way", 5, drawn(CORRIDOR).bot(0, 9, 0, 7, 5));
        // Two columns down, then two up: what is seen late is what was to be done some frames ago.
        Levelsmith spikes = drawn("....", "@.^E", "####");
        Check.same("37 in time over spikes", 4, spikes.bot(0, 0, 0, 1, 4));
        Check.same("37 late onto spikes", 0, spikes.bot(0, 1, 0, 1, 4));
        Check.same("38 ahead of the spikes", 4, spikes.fell(1, 1));
    }

    /** The state seen is stuck in the shaft, so the inputs are drawn there, and the game ends by no death. */
    private static void botThatIsStuck() {
        Levelsmith house = drawn("...", "@.E", "#.#", "#.#", "#.#", "###");
        Check.same("37 in time", 2, house.bot(0, 0, 0, 3, 2));
        Check.same("37 slips", slipsByHand(40, 11, 30), house.bot(0, 0, 40, 11, 30));
        Check.fails("39 it never died", NONE, () -> house.hardest('x'));
    }

    /** The shaft by hand, frame by frame, in a level without any death. */
    private static int slipsByHand(int errs, int seed, int tries) {
        int z = seed;
        int wins = 0;
        for (int game = 0; game < tries; game++) {
            int x = 0;
            int y = 1;
            int rise = 0;
            boolean won = false;
            for (int frame = 0; frame < 200 && !won; frame++) {
                z = z * 1103515245 + 12345;
                boolean slips = (z >>> 16) % 100 < errs;
                z = z * 1103515245 + 12345;
                int drawn = (z >>> 16) % 6;
                boolean stuck = x == 1 && y > 0;
                int best = y == 0 ? bestAbove(x, rise) : 5;
                int input = slips || stuck ? drawn : best;
                boolean stands = y == 1 && x == 0 || y == 4;
                boolean up = input >= 3 && (rise > 0 || stands);
                int power = rise > 0 ? rise - 1 : 1;
                rise = 0;
                if (up && y > 0) {
                    y--;
                    rise = power;
                } else if (!up && !stands) {
                    y++;
                }
                int aside = Math.max(0, Math.min(2, x + input % 3 - 1));
                x = y < 2 ? aside : x;
                won = x == 2 && y == 1;
            }
            wins += won ? 1 : 0;
        }
        return wins;
    }

    private static int bestAbove(int x, int rise) {
        if (x == 2) {
            return 1;
        }
        // Above the start one goes on to the right with a rise; without one, down and up again.
        return x == 1 ? 2 : rise > 0 ? 5 : 1 - 1;
    }

    /** In a room that is left by a long way a game without an end takes 200 frames of two draws each. */
    private static void botOfLongGames() {
        Levelsmith house = drawn("#####", "@...E", "#####");
        for (int seed = 1; seed < 40; seed++) {
            Check.same("37 long games, seed " + seed, walkByHand(seed, 30), house.bot(0, 0, 100, seed, 30));
        }
        // A wide one, by steps that are drawn alone, is not always left within 200 frames.
        Levelsmith wide = new Levelsmith();
        wide.level(12, 3, '#');
        wide.fill(0, 0, 1, 12, 1, '.');
        wide.put(0, 11, 1, 'E');
        wide.start(0, 0, 1);
        int all = 0;
        for (int seed = 1; seed < 20; seed++) {
            int due = wideByHand(seed, 30);
            all += due;
            Check.same("37 wide, seed " + seed, due, wide.bot(0, 3, 100, seed, 30));
        }
        Check.same("37 some games have no end", true, all > 100 && all < 19 * 30 - 100);
    }

    private static int walkByHand(int seed, int tries) {
        return stepsByHand(4, seed, tries);
    }

    private static int wideByHand(int seed, int tries) {
        return stepsByHand(11, seed, tries);
    }

    private static int stepsByHand(int last, int seed, int tries) {
        int z = seed;
        int wins = 0;
        for (int game = 0; game < tries; game++) {
            int x = 0;
            for (int frame = 0; frame < 200 && x < last; frame++) {
                z = z * 1103515245 + 12345;
                z = z * 1103515245 + 12345;
                x = Math.max(0, x + (z >>> 16) % 6 % 3 - 1);
            }
            wins += x == last ? 1 : 0;
        }
        return wins;
    }

    private static void botExceptions() {
        Levelsmith house = drawn(FORK);
        Check.fails("37 no level", INDEX, () -> house.bot(1, 0, 0, 0, 0));
        Check.fails("37 late", ARGUMENT, () -> house.bot(0, 10, 0, 0, 1));
        Check.fails("37 late below 0", ARGUMENT, () -> house.bot(0, -1, 0, 0, 1));
        Check.fails("37 errors", ARGUMENT, () -> house.bot(0, 0, 101, 0, 1));
        Check.fails("37 errors below 0", ARGUMENT, () -> house.bot(0, 0, -1, 0, 1));
        Check.fails("37 no tries", ARGUMENT, () -> house.bot(0, 0, 0, 0, 0));
        Check.fails("37 tries", ARGUMENT, () -> house.bot(0, 0, 0, 0, 31));
        Check.same("37 the highest numbers", true, house.bot(0, 9, 100, Integer.MAX_VALUE, 30) >= 0);
        int died = house.fell(1, 1);
        Check.same("38 it died", true, died > 0);
        house.put(0, 0, 1, '.');
        Check.fails("37 cannot be won", NONE, () -> house.bot(0, 0, 0, 0, 1));
        Check.fails("37 cannot be won, and no tries", ARGUMENT, () -> house.bot(0, 0, 0, 0, 0));
        Check.same("38 nothing was changed", died, house.fell(1, 1));
    }

    private static void fell() {
        Levelsmith house = drawn(HOLE);
        Check.same("38 no bot yet", 0, house.fell(0, 0));
        house.bot(0, 1, 0, 7, 4);
        Check.same("38 died there", 4, house.fell(2, 2));
        Check.same("38 not there", 0, house.fell(2, 1));
        Check.same("38 a cell of no level", 0, house.fell(11, 7));
        house.bot(0, 1, 0, 7, 2);
        Check.same("38 the last bot only", 2, house.fell(2, 2));
        house.bot(0, 0, 0, 7, 2);
        Check.same("38 from 0 on", 0, house.fell(2, 2));
        Check.fails("38 no column", INDEX, () -> house.fell(12, 0));
        Check.fails("38 no row", INDEX, () -> house.fell(0, 8));
        Check.fails("38 column below 0", INDEX, () -> house.fell(-1, 0));
        Check.fails("38 row below 0", INDEX, () -> house.fell(0, -1));
    }

    private static void hardest() {
        Levelsmith house = new Levelsmith();
        Check.fails("39 no bot yet", NONE, () -> house.hardest('x'));
        Check.fails("39 no letter", ARGUMENT, () -> house.hardest('f'));
        Check.draw(house, HOLE);
        house.bot(0, 0, 0, 1, 5);
        Check.fails("39 it never died", NONE, () -> house.hardest('y'));
        house.bot(0, 1, 0, 1, 5);
        Check.same("39 x", 2, house.hardest('x'));
        Check.same("39 y", 2, house.hardest('y'));
        Check.fails("39 no letter", ARGUMENT, () -> house.hardest('Y'));
        hardestOfSeveral();
        // Below the start a guard stands: who falls dies, who falls aside wins.
        Levelsmith corner = drawn("@##", ".E#", "###");
        corner.guard(0, 0, 0, 1);
        int wins = corner.bot(0, 0, 100, 4, 30);
        Check.same("38 in the first cell", 30 - wins, corner.fell(0, 0));
        Check.same("39 the first cell", "0 0", corner.hardest('x') + " " + corner.hardest('y'));
    }

    /** Spikes on both sides of several cells: deaths come from many, and of the most the first one by rows counts. */
    private static void hardestOfSeveral() {
        Levelsmith house = drawn("..E..", ".....", "^.@.^", "#####");
        boolean equal = false;
        for (int seed = 0; seed < 60; seed++) {
            house.bot(0, 2, 80, seed, 8);
            int most = 0;
            int first = -1;
            int how = 0;
            for (int cell = 0; cell < 96; cell++) {
                int times = house.fell(cell % 12, cell / 12);
                how = times > most ? 1 : times == most ? how + 1 : how;
                first = times > most ? cell : first;
                most = Math.max(most, times);
            }
            equal = equal || most > 0 && how > 1;
            if (most > 0) {
                Check.same("39 x, seed " + seed, first % 12, house.hardest('x'));
                Check.same("39 y, seed " + seed, first / 12, house.hardest('y'));
            }
        }
        Check.same("39 several were equal", true, equal);
    }

    private static void playAndKeep(Levelsmith house, int level, String inputs) {
        house.play(level);
        Check.give(house, inputs);
        house.keep();
    }

    private static void publish() {
        Levelsmith house = drawn(CORRIDOR);
        playAndKeep(house, 0, "11222");
        playAndKeep(house, 0, "222");
        playAndKeep(house, 0, "1222");
        Check.same("40 one", 1, house.publish(0, 3, 0));
        Check.same("41 its frames", 3005, house.makerAt(0));
        Check.same("40 again, shorter", 1, house.publish(0, 3, 1));
        Check.same("41 the shortest counts", 3003, house.makerAt(0));
        Check.same("40 again, longer", 1, house.publish(0, 3, 2));
        Check.same("41 the shortest counts yet", 3003, house.makerAt(0));
        Check.fails("40 another maker", UNSUPPORTED, () -> house.publish(0, 4, 1));
        // Changed by one tile it is another level, and the first one is kept as it was.
        house.put(0, 0, 0, '#');
        Check.same("40 another level", 2, house.publish(0, 4, 1));
        house.put(0, 0, 0, '.');
        Check.fails("40 the first one again", UNSUPPORTED, () -> house.publish(0, 4, 1));
        house.guard(0, 0, 1, 0);
        Check.same("40 with a guard", 3, house.publish(0, 5, 1));
        house.guard(0, 2, 1, 0);
        Check.same("40 with two", 4, house.publish(0, 0, 1));
        house.start(0, 1, 1);
        Check.same("40 from another start", 5, house.publish(0, 9, 1));
        // From there the run wins a frame earlier.
        Check.same("41 frames up to winning", 9002, house.makerAt(0));
        Check.same("41 then the others", "3003 4003 5003 3",
                house.makerAt(1) + " " + house.makerAt(2) + " " + house.makerAt(3) + " " + house.makerAt(4));
    }

    /** Levels that differ in one thing alone, which is the first or the last of its kind. */
    private static void isStolenByAll() {
        Levelsmith house = drawn("...", "@.E", "###");
        house.guard(0, 0, 1, 0);
        house.guard(0, 0, 1, 0);
        playAndKeep(house, 0, "22");
        house.publish(0, 1, 0);
        Check.draw(house, "...", "@.E", "###", "...");
        house.guard(1, 0, 1, 0);
        house.guard(1, 0, 1, 0);
        Check.same("42 a higher one", false, house.isStolen(1, 0));
        Check.draw(house, "....", "@.E.", "###.");
        house.guard(2, 0, 1, 0);
        house.guard(2, 0, 1, 0);
        Check.same("42 a wider one", false, house.isStolen(2, 0));
        Check.draw(house, "...", "@.E", "###");
        house.guard(3, 1, 1, 0);
        house.guard(3, 0, 1, 0);
        Check.same("42 another first guard", false, house.isStolen(3, 0));
        Check.draw(house, "...", "@.E", "###");
        house.guard(4, 0, 1, 0);
        house.guard(4, 0, 1, 1);
        Check.same("42 a guard in another row", false, house.isStolen(4, 0));
        Levelsmith last = drawn("...", "@.E", "###");
        playAndKeep(last, 0, "22");
        last.publish(0, 1, 0);
        last.put(0, 2, 2, '=');
        Check.same("42 another last tile", false, last.isStolen(0, 0));
        last.put(0, 2, 2, '#');
        last.put(0, 0, 0, '=');
        Check.same("42 another first tile", false, last.isStolen(0, 0));
    }

    private static void publishExceptions() {
        Levelsmith house = drawn(CORRIDOR);
        house.copy(0);
        playAndKeep(house, 0, "222");
        Check.fails("40 no level", INDEX, () -> house.publish(2, 10, 0));
        Check.fails("40 no run", INDEX, () -> house.publish(0, 10, 1));
        Check.fails("40 no maker", ARGUMENT, () -> house.publish(0, 10, 0));
        Check.fails("40 no maker, and another level", ARGUMENT, () -> house.publish(1, -1, 0));
        Check.fails("40 not on this level", UNSUPPORTED, () -> house.publish(1, 0, 0));
        house.put(0, 1, 1, '^');
        Check.fails("40 dead now", UNSUPPORTED, () -> house.publish(0, 0, 0));
        house.put(0, 1, 1, '#');
        Check.fails("40 no end now", UNSUPPORTED, () -> house.publish(0, 0, 0));
        Check.fails("41 none is shown", INDEX, () -> house.makerAt(0));
        house.put(0, 1, 1, '^');
        house.play(0);
        house.input(2);
        house.keep();
        house.put(0, 1, 1, '.');
        Check.fails("40 a run that died", UNSUPPORTED, () -> house.publish(0, 0, 1));
        house.put(0, 1, 1, 'E');
        Check.same("40 a run that died wins now", 1, house.publish(0, 0, 1));
        Check.same("41 in one frame", 1, house.makerAt(0));
        // The copy is the same level, by a run of its own.
        house.put(0, 1, 1, '.');
        house.publish(0, 2, 0);
        playAndKeep(house, 1, "1222");
        Check.fails("40 a copy of another maker", UNSUPPORTED, () -> house.publish(1, 0, 2));
        Check.same("40 a copy of this maker", 2, house.publish(1, 2, 2));
        Check.same("41 by the shorter run", 2003, house.makerAt(1));
    }

    private static void makerAt() {
        Levelsmith house = drawn("#####", "@...E", "#####");
        Check.fails("41 none", INDEX, () -> house.makerAt(0));
        playAndKeep(house, 0, "112222");
        playAndKeep(house, 0, "12222");
        playAndKeep(house, 0, "2222");
        house.publish(0, 1, 0);
        house.put(0, 0, 0, '.');
        house.publish(0, 2, 2);
        house.put(0, 1, 0, '.');
        house.publish(0, 3, 1);
        house.put(0, 2, 0, '.');
        house.publish(0, 4, 1);
        Check.same("41 ranked", "2004 3005 4005 1006", ranks(house, 4));
        Check.fails("41 no fifth", INDEX, () -> house.makerAt(4));
        Check.fails("41 below 0", INDEX, () -> house.makerAt(-1));
        // Shown again with as few frames as the second and third one, the first one is ahead of them.
        house.fill(0, 0, 0, 3, 1, '#');
        house.publish(0, 1, 1);
        Check.same("41 shown again", "2004 1005 3005 4005", ranks(house, 4));
        house.publish(0, 1, 2);
        Check.same("41 and again", "1004 2004 3005 4005", ranks(house, 4));
    }

    private static String ranks(Levelsmith house, int most) {
        StringBuilder ranks = new StringBuilder();
        for (int rank = 0; rank < most; rank++) {
            ranks.append(rank == 0 ? "" : " ").append(house.makerAt(rank));
        }
        return ranks.toString();
    }

    private static void isStolen() {
        Levelsmith house = drawn(CORRIDOR);
        house.guard(0, 0, 1, 0);
        house.guard(0, 2, 1, 0);
        Check.same("42 none is shown", false, house.isStolen(0, 1));
        playAndKeep(house, 0, "222");
        house.publish(0, 1, 0);
        Check.same("42 the maker's own", false, house.isStolen(0, 1));
        Check.same("42 another's", true, house.isStolen(0, 2));
        house.copy(0);
        Check.same("42 a copy", true, house.isStolen(1, 0));
        house.start(1, 1, 1);
        Check.same("42 another start", false, house.isStolen(1, 0));
        house.start(1, 0, 1);
        Check.same("42 the same start", true, house.isStolen(1, 0));
        house.put(1, 3, 2, '=');
        Check.same("42 another tile", false, house.isStolen(1, 0));
        // The same guards in another order are another level.
        Check.draw(house, CORRIDOR);
        house.guard(2, 2, 1, 0);
        house.guard(2, 0, 1, 0);
        Check.same("42 guards in another order", false, house.isStolen(2, 0));
        Check.draw(house, CORRIDOR);
        house.guard(3, 0, 1, 0);
        Check.same("42 fewer guards", false, house.isStolen(3, 0));
        house.guard(3, 2, 0, 0);
        Check.same("42 a guard that goes less far", false, house.isStolen(3, 0));
        Check.draw(house, "...", "@..", "###");
        Check.same("42 another size", false, house.isStolen(4, 0));
        isStolenByAll();
        house.put(0, 0, 0, '#');
        Check.same("42 it is another one now", false, house.isStolen(0, 2));
        Check.fails("42 no level", INDEX, () -> house.isStolen(5, 10));
        Check.fails("42 no maker", ARGUMENT, () -> house.isStolen(0, 10));
        Check.fails("42 maker below 0", ARGUMENT, () -> house.isStolen(0, -1));
    }
}
