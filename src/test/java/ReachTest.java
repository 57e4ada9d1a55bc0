import java.util.NoSuchElementException;

/** Promises 11 to 24: what can be reached, by levels that were worked out by hand. */
public final class ReachTest {
    private static final Class<?> INDEX = IndexOutOfBoundsException.class;
    private static final Class<?> ARGUMENT = IllegalArgumentException.class;
    private static final Class<?> NONE = NoSuchElementException.class;

    /** A shaft of three beside the way: who walks into it is stuck, who jumps over it wins. */
    private static final String[] SHAFT = {"...", "@.E", "#.#", "#.#", "#.#", "###"};
    private static final String[] CLOSED = {"###", "#@#", "###"};
    private static final String[] CORRIDOR = {".....", ".....", "@...E", "#####"};

    public static void main(String[] args) {
        isWinnable();
        frames();
        routeAt();
        states();
        framesTo();
        softLocks();
        softLockAt();
        ways();
        isNeeded();
        isWinnableWith();
        mend();
        mendWithHelpOfAir();
        mendNearby();
        guardsByPhases();
        mendAt();
        rests();
        longestAir();
        answersFollowChanges();
        Check.end("ReachTest");
    }

    private static Levelsmith drawn(String... rows) {
        Levelsmith house = new Levelsmith();
        Check.draw(house, rows);
        return house;
    }

    private static void winnable(boolean due, String... rows) {
        Check.same("11 " + String.join("/", rows), due, drawn(rows).isWinnable(0));
    }

    private static void isWinnable() {
        winnable(true, CORRIDOR);
        winnable(true, SHAFT);
        winnable(false, CLOSED);
        winnable(false, "...", "...", "@.E");
        winnable(true, "...", "@~E", "###");
        winnable(false, "#####", "@.D.E", "#####");
        winnable(true, "#####", "@kDDE", "#####");
        winnable(false, "#####", "@kc.E", "#####");
        winnable(true, "#####", "@hccE", "#####");
        winnable(false, "#####", "@.G.E", "#####");
        winnable(true, "#####", "@SGGE", "#####");
        winnable(true, "#####", "@.ggE", "#####");
        winnable(true, "#####", "@Sg.E", "#####");
        winnable(false, "######", "@S#..E", "######");
        winnable(false, "#####", "@.^.E", "#####");
        winnable(true, ".....", "@.^.E", "#####");
        winnable(true, "......", "@.^^.E", "##..##");
        winnable(false, ".......", "@.^^^.E", "##...##");
        winnable(true, "#####", "@.=.E", "#####");
        // Two high is jumped up, three high only with springs.
        winnable(true, ".....", "..#..", "@.#.E", "#####");
        winnable(false, ".....", "..#..", "..#..", "@.#.E", "#####");
        winnable(true, ".....", "..#..", "..#..", "@s#.E", "#####");
        // Water carries up as far as it goes.
        winnable(true, ".....", ".~#..", ".~#..", ".~#..", "@~#.E", "#####");
        winnable(false, ".....", "..#..", ".~#..", ".~#..", "@~#.E", "#####");
        // A plate lets through from below, not from above.
        winnable(true, "..E", "===", "@..", "###");
        winnable(false, "@..", "===", "..E", "###");
        Levelsmith house = drawn("#####", "@...E", "#####");
        house.guard(0, 2, 0, 1);
        Check.same("11 a guard stands in the way", false, house.isWinnable(0));
        Check.fails("11 no level", INDEX, () -> house.isWinnable(1));
        Check.fails("11 no level below 0", INDEX, () -> house.isWinnable(-1));
    }

    private static void frames() {
        Check.same("12 corridor", 4, drawn(CORRIDOR).frames(0));
        Check.same("12 shaft", 2, drawn(SHAFT).frames(0));
        Levelsmith exit = drawn("###", "#E#", "###");
        exit.start(0, 1, 1);
        Check.same("12 who stays at the exit wins", 1, exit.frames(0));
        Levelsmith closed = drawn(CLOSED);
        Check.fails("12 none wins", NONE, () -> closed.frames(0));
        Check.fails("12 no level", INDEX, () -> closed.frames(1));
        // In the phases 1, 2, 3 the guard is in the columns 2, 1, 2, and one goes through it from 1 to 2.
        Levelsmith guarded = drawn("####", "@..E", "####");
        guarded.guard(0, 1, 1, 1);
        Check.same("12 past a guard", 3, guarded.frames(0));
        // In the phase 2 this one is in the column 2, so one waits for a frame.
        Levelsmith late = drawn("####", "@..E", "####");
        late.guard(0, 2, 1, 1);
        Check.same("12 behind a guard", 4, late.frames(0));
        Check.same("13 behind a guard", "0222", Check.route(late, 0));
    }

    private static void routeAt() {
        Check.same("13 corridor", "2222", Check.route(drawn(CORRIDOR), 0));
        Check.same("13 shaft", "52", Check.route(drawn(SHAFT), 0));
        Check.same("13 the switch goes over twice", "202222", Check.route(drawn("#####", "@S.gE", "#####"), 0));
        Check.same("13 a hole", "252", Check.route(drawn("....", "@..E", "##.#"), 0));
        Levelsmith exit = drawn("...", ".E.", "###");
        exit.start(0, 1, 1);
        Check.same("13 stays", "1", Check.route(exit, 0));
        Levelsmith walled = drawn("###", "#E#", "###");
        walled.start(0, 1, 1);
        Check.same("13 the lowest input", "0", Check.route(walled, 0));
        Check.same("13 up in water", "335", Check.route(drawn("~E#", "~##", "~##", "@##", "###"), 0));
        Levelsmith corridor = drawn(CORRIDOR);
        Check.fails("13 no frame", INDEX, () -> corridor.routeAt(0, 4));
        Check.fails("13 frame below 0", INDEX, () -> corridor.routeAt(0, -1));
        Check.fails("13 no level", INDEX, () -> corridor.routeAt(1, 0));
        Levelsmith closed = drawn(CLOSED);
        Check.fails("13 none wins", NONE, () -> closed.routeAt(0, 0));
        Check.fails("13 none wins, and no frame", NONE, () -> closed.routeAt(0, -1));
    }

    private static void states() {
        Check.same("14 only the phases", 12, drawn(CLOSED).states(0));
        // Below with no rise, above with a rise of 1, and above with none.
        Check.same("14 a jump of one", 36, drawn("#.#", "#@#", "###").states(0));
        Check.same("14 shaft", 132, drawn(SHAFT).states(0));
        Check.same("14 who falls dead at once", 1, drawn("...", "...", "@..").states(0));
        Levelsmith won = drawn("###", "#E#", "###");
        won.start(0, 1, 1);
        Check.same("14 who wins at once", 1, won.states(0));
        Levelsmith guarded = drawn(CLOSED);
        guarded.guard(0, 0, 1, 1);
        // The guard is in the cell in each uneven phase.
        Check.same("14 dead in the next frame", 1, guarded.states(0));
        Check.fails("14 no level", INDEX, () -> guarded.states(1));
    }

    private static void framesTo() {
        Levelsmith house = drawn(CORRIDOR);
        Check.same("15 the start", 0, house.framesTo(0, 0, 2));
        Check.same("15 beside", 1, house.framesTo(0, 1, 2));
        Check.same("15 beside above", 1, house.framesTo(0, 1, 1));
        Check.same("15 farther", 3, house.framesTo(0, 3, 2));
        Check.same("15 the highest", 2, house.framesTo(0, 0, 0));
        Check.fails("15 the exit", NONE, () -> house.framesTo(0, 4, 2));
        Check.fails("15 a wall", NONE, () -> house.framesTo(0, 0, 3));
        Check.fails("15 no level", INDEX, () -> house.framesTo(1, 0, 0));
        Check.fails("15 no column", INDEX, () -> house.framesTo(0, 5, 0));
        Check.fails("15 no row", INDEX, () -> house.framesTo(0, 0, 4));
        Check.fails("15 below 0", INDEX, () -> house.framesTo(0, 0, -1));
        house.put(0, 0, 2, '#');
        Check.same("15 a start in a wall", 0, house.framesTo(0, 0, 2));
    }

    private static void softLocks() {
        // In the shaft: twice once from above, once at its bottom, and between with and without a rise, in 12 phases.
        Check.same("16 shaft", 60, drawn(SHAFT).softLocks(0));
        Check.same("16 none, by the lowest input alone", 0, drawn("^^#", "E@#", "###").softLocks(0));
        Check.same("16 all", 12, drawn(CLOSED).softLocks(0));
        Check.same("16 none", 0, drawn("####", "@..E", "####").softLocks(0));
        Check.fails("16 no level", INDEX, () -> drawn(CLOSED).softLocks(1));
    }

    private static void softLockAt() {
        Levelsmith house = drawn(SHAFT);
        Check.same("17 x", 1, house.softLockAt(0, 'x'));
        Check.same("17 y", 1, house.softLockAt(0, 'y'));
        Check.same("17 f", 1, house.softLockAt(0, 'f'));
        Levelsmith closed = drawn(CLOSED);
        Check.same("17 x of the first", 1, closed.softLockAt(0, 'x'));
        Check.same("17 f of the first", 0, closed.softLockAt(0, 'f'));
        Levelsmith free = drawn("####", "@..E", "####");
        Check.fails("17 none", NONE, () -> free.softLockAt(0, 'f'));
        Check.fails("17 no letter", ARGUMENT, () -> free.softLockAt(0, 'a'));
        Check.fails("17 no level", INDEX, () -> free.softLockAt(1, 'a'));
    }

    private static void ways() {
        Check.same("18 one must take the keys", 1, drawn("###", "@kE", "###").ways(0));
        Check.same("18 one can jump over", 2, drawn("...", "@kE", "###").ways(0));
        Check.same("18 none", 0, drawn("###", "@k#", "###").ways(0));
        Check.same("18 by the lowest input alone", 1, drawn("^^#", "E@#", "###").ways(0));
        Check.same("18 by the first state alone", 1, drawn("###", "E@#", "###").ways(0));
        // On the left: hammers, or springs behind them; on the right the exit.
        Check.same("18 a way aside", 3, drawn("#####", "sh@.E", "#####").ways(0));
        Check.same("18 two ways aside", 4, drawn("h..s..", "@....E", "######").ways(0));
        Check.fails("18 no level", INDEX, () -> drawn(CLOSED).ways(1));
    }

    private static void isNeeded() {
        Levelsmith house = drawn("####", "@kDE", "####");
        Check.same("19 keys", true, house.isNeeded(0, 'k'));
        Check.same("19 no hammers", false, house.isNeeded(0, 'h'));
        Check.same("19 the exit", true, house.isNeeded(0, 'E'));
        Check.same("19 the level is as before", 'k', house.tile(0, 1, 1));
        Check.same("19 a way over the door", false, drawn("....", "@kDE", "####").isNeeded(0, 'k'));
        Check.same("19 hammers", true, drawn("####", "@hcE", "####").isNeeded(0, 'h'));
        Check.same("19 the switch", true, drawn("####", "@SGE", "####").isNeeded(0, 'S'));
        Check.same("19 a switch that must go over twice", false, drawn("#####", "@S.gE", "#####").isNeeded(0, 'S'));
        Check.same("19 springs", true, drawn(".....", "..#..", "..#..", "@s#.E", "#####").isNeeded(0, 's'));
        Check.same("19 springs for nothing", false, drawn(".....", ".....", "..#..", "@s#.E", "#####").isNeeded(0, 's'));
        Check.same("19 two keys", true, drawn("#####", "@kkDE", "#####").isNeeded(0, 'k'));
        Levelsmith closed = drawn(CLOSED);
        Check.fails("19 cannot be won", NONE, () -> closed.isNeeded(0, 'k'));
        Check.fails("19 none of these", ARGUMENT, () -> closed.isNeeded(0, 'D'));
        Check.fails("19 none of these", ARGUMENT, () -> house.isNeeded(0, '.'));
        Check.fails("19 no level", INDEX, () -> house.isNeeded(1, 'D'));
    }

    private static void isWinnableWith() {
        Levelsmith guarded = drawn("#####", "@...E", "#####");
        guarded.guard(0, 2, 0, 1);
        Check.same("20 without guards", true, guarded.isWinnableWith(0, 'g'));
        Check.same("20 the guard is there", false, guarded.isWinnableWith(0, 's'));
        Check.same("20 the guard is there", false, guarded.isWinnableWith(0, 't'));
        Check.same("20 it stays there", 2, guarded.guardAt(0, 0, 0));
        Levelsmith spiked = drawn("#####", "@.^.E", "#####");
        Check.same("20 without spikes", true, spiked.isWinnableWith(0, 's'));
        Check.same("20 with spikes", false, spiked.isWinnableWith(0, 'g'));
        Check.same("20 with spikes", false, spiked.isWinnableWith(0, 't'));
        Check.same("20 they stay there", '^', spiked.tile(0, 2, 1));
        Check.same("20 keys", true, drawn("####", "@.DE", "####").isWinnableWith(0, 't'));
        Check.same("20 hammers", true, drawn("####", "@.cE", "####").isWinnableWith(0, 't'));
        Check.same("20 springs", true, drawn(".....", "..#..", "..#..", "@.#.E", "#####").isWinnableWith(0, 't'));
        Check.same("20 no springs", false, drawn(".....", "..#..", "..#..", "@.#.E", "#####").isWinnableWith(0, 's'));
        Check.same("20 no switch", false, drawn("####", "@.GE", "####").isWinnableWith(0, 't'));
        Check.same("20 by the lowest input alone", true, drawn("^^#", "E@#", "###").isWinnableWith(0, 't'));
        Check.same("20 no help is needed", true, drawn(CORRIDOR).isWinnableWith(0, 'g'));
        Check.fails("20 no such help", ARGUMENT, () -> spiked.isWinnableWith(0, 'x'));
        Check.fails("20 no level", INDEX, () -> spiked.isWinnableWith(1, 'x'));
    }

    private static void mend() {
        Levelsmith house = drawn("####", "@.#E", "####");
        Check.same("21 one change", 1, house.mend(0));
        Check.same("21 to a plate", "@.=E".replace('@', '.'), Check.row(house, 0, 1, 4));
        Check.same("21 can be won", true, house.isWinnable(0));
        Check.same("21 nothing more", 0, house.mend(0));
        Check.same("21 a level that can be won", 0, drawn(CORRIDOR).mend(0));
        Levelsmith lost = drawn("...", "...", "@.E");
        Check.fails("21 nothing will do", UnsupportedOperationException.class, () -> lost.mend(0));
        Check.same("21 nothing was changed", "..E", Check.row(lost, 0, 2, 3));
        Check.fails("21 no level", INDEX, () -> lost.mend(1));
        // The first cell by rows is taken, though one farther down would do too.
        Levelsmith two = drawn(".###E", ".####", ".#.#.", ".#.#.", "@#...", "#####");
        Check.fails("21 two walls", UnsupportedOperationException.class, () -> two.mend(0));
    }

    private static void mendWithHelpOfAir() {
        // On a plate one would stand, through air one falls.
        Levelsmith house = drawn("@##", "###", "E##");
        Check.same("21 by air", 1, house.mend(0));
        Check.same("21 air", '.', house.tile(0, 0, 1));
        Check.same("21 no exit is changed", 'E', house.tile(0, 0, 2));
        // A plate that bars the way down becomes air.
        Levelsmith plate = drawn("@##", "=##", "E##");
        Check.same("21 a plate goes", 1, plate.mend(0));
        Check.same("21 air for a plate", '.', plate.tile(0, 0, 1));
        // Air becomes a plate: a bridge over a hole of four.
        Levelsmith hole = drawn("#######", "@.....E", "#.....#");
        Check.fails("21 no bridge of five", UnsupportedOperationException.class, () -> hole.mend(0));
        Levelsmith short1 = drawn("####", "@..E", "#.##");
        Check.same("21 a bridge of one", 1, short1.mend(0));
        Check.same("21 the bridge", '=', short1.tile(0, 1, 2));
    }

    private static void mendsAt(String what, int x, int y, char sign, String... rows) {
        Levelsmith house = drawn(rows);
        Check.same("22 x " + what, x, house.mendAt(0, 'x'));
        Check.same("22 y " + what, y, house.mendAt(0, 'y'));
        Check.same("21 " + what, 1, house.mend(0));
        Check.same("21 tile " + what, sign, house.tile(0, x, y));
        Check.same("21 sound " + what, true, house.isWinnable(0) && house.isSound());
    }

    /** Cells all round the one where a frame begins, also those that are looked at while dying alone. */
    private static void mendNearby() {
        mendsAt("the first cell", 0, 0, '=', "#.E", "@##", "###");
        mendsAt("to the right", 2, 1, '=', "####", "@.#E", "####");
        mendsAt("to the left", 1, 1, '=', "####", "E#.@", "####");
        mendsAt("below to the right", 1, 1, '=', "@##", "^#E", "###");
        mendsAt("below to the left", 1, 1, '=', "##@", "E#^", "###");
        mendsAt("above to the right", 1, 0, '=', "^#E", "@##", "###");
        mendsAt("above to the left", 1, 0, '=', "E#^", "##@", "###");
        mendsAt("above", 0, 1, '=', ".E#", "###", "@##", "###");
        // On the exit below a guard stands; only a plate in place of the exit would help, and that is no change.
        Levelsmith exit = drawn("@.E", "E##", "###");
        exit.guard(0, 0, 0, 1);
        exit.guard(0, 1, 0, 1);
        Check.fails("21 no exit is changed", UnsupportedOperationException.class, () -> exit.mend(0));
    }

    /** In levels without spikes the help against spikes changes nothing, so both must find the same, guards and all. */
    private static void guardsByPhases() {
        int[] ways = {0, 1, 2, 3, 6};
        int won = 0;
        Levelsmith house = new Levelsmith();
        for (int n = 0; n < 1200; n++) {
            if (n % 30 == 0) {
                house = new Levelsmith();
                house.level(9, 4, '#');
            }
            int start = n % 3;
            house.fill(0, 0, 0, 9, 4, '#');
            house.fill(0, 0, 2, 9, 1, '.');
            house.fill(0, n % 7, 1, 1 + n / 7 % 2, 1, '.');
            house.put(0, 8, 2, 'E');
            house.start(0, start, 2);
            if (n % 30 == 0) {
                house.guard(0, n / 30 % 3, ways[n / 30 % 5], 2);
                house.guard(0, n / 90 % 3, ways[n / 150 % 5], 2);
            }
            if (n % 30 == 15) {
                house.guard(0, 2, ways[n / 60 % 5], 1 + n / 30 % 2);
            }
            boolean wins = house.isWinnable(0);
            won += wins ? 1 : 0;
            Check.same("20 guards " + n, wins, house.isWinnableWith(0, 's'));
        }
        Check.same("20 some are won, and some are not", true, won > 200 && won < 1000);
    }

    private static void mendAt() {
        Levelsmith house = drawn("####", "@.#E", "####");
        Check.same("22 x", 2, house.mendAt(0, 'x'));
        Check.same("22 y", 1, house.mendAt(0, 'y'));
        Check.same("22 nothing was changed", '#', house.tile(0, 2, 1));
        Check.fails("22 no letter", ARGUMENT, () -> house.mendAt(0, 'f'));
        Check.fails("22 no level", INDEX, () -> house.mendAt(1, 'f'));
        Levelsmith won = drawn(CORRIDOR);
        Check.fails("22 it can be won", NONE, () -> won.mendAt(0, 'x'));
        Check.fails("22 no letter", ARGUMENT, () -> won.mendAt(0, 'z'));
        Levelsmith lost = drawn("...", "...", "@.E");
        Check.fails("22 nothing will do", NONE, () -> lost.mendAt(0, 'y'));
        // Two cells would do, and the first one by rows counts: the hole above is seen ahead of that beside.
        Levelsmith two = drawn("...", ".#E", "@#.", "###", "###");
        Check.fails("22 one can climb over", NONE, () -> two.mendAt(0, 'x'));
        Levelsmith walls = drawn("###", ".#E", "@#.", "###");
        Check.same("22 the upper one, x", 1, walls.mendAt(0, 'x'));
        Check.same("22 the upper one, y", 1, walls.mendAt(0, 'y'));
    }

    private static void rests() {
        Check.same("23 corridor", 3, drawn(CORRIDOR).rests(0));
        Check.same("23 shaft", 0, drawn(SHAFT).rests(0));
        Check.same("23 a hole", 1, drawn("....", "@..E", "##.#").rests(0));
        Check.same("23 doors bear", 2, drawn("....", "@..E", "#DD#").rests(0));
        Check.same("23 plates bear", 2, drawn("....", "@..E", "#==#").rests(0));
        Check.same("23 doors do not bear with keys", 0, drawn("...", "@kE", "#D#").rests(0));
        Check.same("23 water on the ground", 2, drawn("....", "@~~E", "####").rests(0));
        Levelsmith closed = drawn(CLOSED);
        Check.fails("23 none wins", NONE, () -> closed.rests(0));
        Check.fails("23 no level", INDEX, () -> closed.rests(1));
    }

    private static void longestAir() {
        Check.same("24 corridor", 1, drawn(CORRIDOR).longestAir(0));
        Check.same("24 shaft", 2, drawn(SHAFT).longestAir(0));
        Check.same("24 a hole", 2, drawn("....", "@..E", "##.#").longestAir(0));
        Check.same("24 a fall, then a walk", 3, drawn("@#####", ".#####", ".#####", ".#####", "....E#", "######")
                .longestAir(0));
        Levelsmith closed = drawn(CLOSED);
        Check.fails("24 none wins", NONE, () -> closed.longestAir(0));
        Check.fails("24 no level", INDEX, () -> closed.longestAir(1));
    }

    /** What was found out about a level must not be told once the level is another one. */
    private static void answersFollowChanges() {
        Levelsmith house = drawn(CORRIDOR);
        int other = house.copy(0);
        Check.same("11 at first", true, house.isWinnable(0));
        house.put(0, 4, 2, '.');
        Check.same("11 put", false, house.isWinnable(0));
        Check.same("11 the other one", true, house.isWinnable(other));
        house.fill(0, 4, 2, 1, 1, 'E');
        Check.same("12 filled", 4, house.frames(0));
        house.start(0, 2, 2);
        Check.same("12 started", 2, house.frames(0));
        house.guard(0, 3, 0, 2);
        Check.same("13 guarded", "52", Check.route(house, 0));
        house.fill(0, 3, 0, 1, 3, '#');
        Check.same("22 the column between", 3, house.mendAt(0, 'x'));
        Check.same("22 its uppermost cell, above the guard", 0, house.mendAt(0, 'y'));
        house.put(0, 4, 3, '.');
        Check.same("11 barred", false, house.isWinnable(0));
        house.mend(0);
        Check.same("11 mended", true, house.isWinnable(0));
        Check.same("12 the other one", 4, house.frames(other));
        house.grow(0, 5);
        Check.same("12 grown", house.frames(other), house.frames(0));
    }
}
