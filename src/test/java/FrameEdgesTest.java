/** The edges of a frame: what is solid and what bears, the ends of a level, of a rise, and of a game; promises 26, 27 and 30. */
public final class FrameEdgesTest {
    private static final Class<?> UNSUPPORTED = UnsupportedOperationException.class;
    private static final String TILES = ".#=~^DcGgSkhsE";
    private static final int KEYS = 1;
    private static final int HAMMERS = 2;
    private static final int SPRINGS = 4;

    public static void main(String[] args) {
        eachTile();
        sidesAndTop();
        bottom();
        bottomInWater();
        ends();
        rises();
        springsWhileRising();
        upIntoSolid();
        upIntoWhatIsSolidThen();
        stepsBeforeAndBehindUp();
        steppingIntoSolid();
        touching();
        switchGoesOverEachTime();
        thingsStay();
        deadAheadOfWon();
        beginnings();
        standingInSolid();
        phases();
        Check.end("FrameEdgesTest");
    }

    private static Levelsmith played(String... rows) {
        Levelsmith house = new Levelsmith();
        house.play(Check.draw(house, rows));
        return house;
    }

    private static void frames(String what, Levelsmith house, String inputs, String... due) {
        for (int i = 0; i < inputs.length(); i++) {
            char end = house.input(inputs.charAt(i) - '0');
            Check.same(what + ", frame " + i, due[i], end == 'p' ? Check.told(house, "xyj") : String.valueOf(end));
        }
    }

    /** A player in the column 3 and the row 3 of a room, with things and the switch as they are asked for. */
    private static Levelsmith furnished(int things, boolean on) {
        Levelsmith house = played(".......", ".......", ".......", "...@...", "#######", ".......");
        take(house, 'k', (things & KEYS) != 0);
        take(house, 'h', (things & HAMMERS) != 0);
        take(house, 's', (things & SPRINGS) != 0);
        take(house, 'S', on);
        Check.same("27 furnished", "3 3 " + things + (on ? " 1" : " 0") + " 0", Check.told(house, "xyasj"));
        return house;
    }

    private static void take(Levelsmith house, char tile, boolean wanted) {
        if (wanted) {
            house.put(0, 2, 3, tile);
            Check.give(house, "0");
            house.put(0, 2, 3, '.');
            Check.give(house, "2");
        }
    }

    private static boolean isSolid(char tile, int things, boolean on) {
        return tile == '#' || tile == 'D' && (things & KEYS) == 0 || tile == 'c' && (things & HAMMERS) == 0
                || tile == 'G' && !on || tile == 'g' && on;
    }

    private static void eachTile() {
        for (char tile : TILES.toCharArray()) {
            for (int things = 0; things < 8; things++) {
                stepInto(tile, things, false);
                stepInto(tile, things, true);
                goUpInto(tile, things, false);
                goUpInto(tile, things, true);
                standOn(tile, things, false);
                standOn(tile, things, true);
                loadOnto(tile, things, false);
                loadOnto(tile, things, true);
            }
        }
    }

    private static String called(String what, char tile, int things, boolean on) {
        return what + " " + tile + " with " + things + (on ? ", on" : ", off");
    }

    private static char endOf(char tile) {
        return tile == '^' ? 'd' : tile == 'E' ? 'w' : 'p';
    }

    private static void stepInto(char tile, int things, boolean on) {
        for (int side = -1; side <= 1; side += 2) {
            Levelsmith house = furnished(things, on);
            house.put(0, 3 + side, 3, tile);
            boolean isSolid = isSolid(tile, things, on);
            String what = called("26 step into", tile, things, on);
            Check.same(what, isSolid ? 'p' : endOf(tile), house.input(1 + side));
            if (isSolid || endOf(tile) == 'p') {
                Check.same(what + ", cell", isSolid ? "3 3" : 3 + side + " 3", Check.told(house, "xy"));
                Check.same(what + ", found", things | found(tile), house.told('a'));
                Check.same(what + ", switch", on != (tile == 'S') ? 1 : 0, house.told('s'));
            }
        }
    }

    private static int found(char tile) {
        return tile == 'k' ? KEYS : tile == 'h' ? HAMMERS : tile == 's' ? SPRINGS : 0;
    }

    private static void goUpInto(char tile, int things, boolean on) {
        Levelsmith house = furnished(things, on);
        house.put(0, 3, 2, tile);
        boolean isSolid = isSolid(tile, things, on);
        String what = called("26 up into", tile, things, on);
        Check.same(what, isSolid ? 'p' : endOf(tile), house.input(4));
        if (isSolid || endOf(tile) == 'p') {
            int rise = (things & SPRINGS) != 0 ? 2 : 1;
            Check.same(what + ", cell", isSolid ? "3 3 0" : "3 2 " + rise, Check.told(house, "xyj"));
            Check.same(what + ", found", isSolid ? things : things | found(tile), house.told('a'));
        }
    }

    private static void standOn(char tile, int things, boolean on) {
        boolean bears = tile == '=' || isSolid(tile, things, on);
        Levelsmith house = furnished(things, on);
        house.put(0, 3, 4, tile);
        String what = called("26 stand on", tile, things, on);
        Check.same(what, bears ? 'p' : endOf(tile), house.input(1));
        if (bears || endOf(tile) == 'p') {
            Check.same(what + ", cell", bears ? "3 3" : "3 4", Check.told(house, "xy"));
        }
        Levelsmith jumping = furnished(things, on);
        jumping.put(0, 3, 4, tile);
        Check.same(what + ", jump", bears ? 'p' : endOf(tile), jumping.input(4));
        if (bears || endOf(tile) == 'p') {
            Check.same(what + ", jump, cell", bears ? "3 2" : "3 4", Check.told(jumping, "xy"));
        }
        Levelsmith wet = furnished(things, on);
        wet.put(0, 3, 3, '~');
        wet.put(0, 3, 4, tile);
        Check.same(what + ", in water", bears ? 'p' : endOf(tile), wet.input(1));
    }

    private static void loadOnto(char tile, int things, boolean on) {
        Levelsmith house = furnished(things, on);
        house.save(0);
        house.put(0, 3, 3, tile);
        String what = called("30 load onto", tile, things, on);
        if (isSolid(tile, things, on) || tile == '^') {
            Check.fails(what, UNSUPPORTED, () -> house.load(0));
        } else {
            Check.same(what, 0, house.load(0));
            Check.same(what + ", state", "3 3 " + things + (on ? " 1 0" : " 0 0"), Check.told(house, "xyasf"));
        }
    }

    /** Each width and height, as in the widest one the next column would be in the next row. */
    private static void sidesAndTop() {
        for (int wide = 3; wide <= 12; wide++) {
            for (int high = 3; high <= 8; high++) {
                String what = "26 the ends of " + wide + " " + high;
                Levelsmith house = new Levelsmith();
                house.level(wide, high, '.');
                house.fill(0, 0, high - 1, wide, 1, '=');
                house.start(0, 0, high - 2);
                house.play(0);
                frames(what + " left", house, "0", "0 " + (high - 2) + " 0");
                Check.give(house, "2".repeat(wide - 1));
                frames(what + " right", house, "22", wide - 1 + " " + (high - 2) + " 0", wide - 1 + " " + (high - 2) + " 0");
                frames(what + " right, up", house, "5", wide - 1 + " " + (high - 3) + " 1");
                top(what, wide, high);
            }
        }
    }

    private static void top(String what, int wide, int high) {
        for (int x : new int[] {0, wide - 1}) {
            Levelsmith house = new Levelsmith();
            house.level(wide, high, '.');
            house.fill(0, 0, 1, wide, 1, '#');
            house.start(0, x, 0);
            house.play(0);
            frames(what + " top", house, "4", x + " 0 0");
            frames(what + " top, left and right", house, "35", Math.max(0, x - 1) + " 0 0",
                    Math.min(wide - 1, Math.max(0, x - 1) + 1) + " 0 0");
        }
    }

    private static void bottom() {
        for (int high = 3; high <= 8; high++) {
            for (int wide : new int[] {3, 12}) {
                for (int input = 0; input < 6; input++) {
                    for (int x : new int[] {0, wide - 1}) {
                        Levelsmith house = new Levelsmith();
                        house.level(wide, high, '.');
                        house.start(0, x, high - 1);
                        house.play(0);
                        Check.same("26 below the row " + (high - 1) + " by " + input, 'd', house.input(input));
                        house.start(0, x, high - 2);
                        house.play(0);
                        Check.same("26 into the row " + (high - 1) + " by " + input, 'p', house.input(input));
                        Check.same("27 in the row " + (high - 1), high - 1, house.told('y'));
                        Check.same("26 and below it", 'd', house.input(input));
                        Check.same("28 two deaths", 2, house.deaths());
                    }
                }
            }
        }
        // Aside of the fall is the exit, but who is below the lowest row is dead.
        Levelsmith house = played("...", "...", "@E.");
        Check.same("26 no step below the lowest row", 'd', house.input(2));
        // A wall in the lowest row bears.
        frames("a wall in the lowest row", played("...", "@..", "#.."), "14", "0 1 0", "0 0 1");
        // The tiles of the lowest row bear nobody who is in it.
        frames("on a plate's own cell", played("...", "...", "@=="), "1", "d");
    }

    private static void bottomInWater() {
        for (int high = 3; high <= 8; high++) {
            for (int input = 0; input < 6; input++) {
                Levelsmith house = new Levelsmith();
                house.level(12, high, '~');
                house.start(0, 5, high - 1);
                house.play(0);
                Check.same("26 in the lowest row's water by " + input, input < 3 ? 'd' : 'p', house.input(input));
                if (input >= 3) {
                    Check.same("27 up", 5 + input - 4 + " " + (high - 2) + " 0", Check.told(house, "xyj"));
                }
            }
        }
        // Barred above, one stays in the lowest row's water as long as the jump is held.
        Levelsmith house = new Levelsmith();
        Check.draw(house, "...", "##.", "~~.");
        house.start(0, 0, 2);
        house.play(0);
        frames("barred in water", house, "4451", "0 2 0", "0 2 0", "1 2 0", "d");
    }

    /** A game ends with the frame in which it is won or lost, and nothing is told of it then. */
    private static void ends() {
        for (String inputs : new String[] {"2", "1"}) {
            Levelsmith house = new Levelsmith();
            Check.draw(house, "...", "@#.", ".E.");
            Check.same("25 the start", 12, house.play(0));
            char due = inputs.equals("2") ? 'w' : 'p';
            Check.same("26 by " + inputs, due, house.input(inputs.charAt(0) - '0'));
            Check.same("28 by " + inputs, 0, house.deaths());
            if (due == 'p') {
                Check.same("26 then below the lowest row", 'd', house.input(1));
                Check.same("28 then", 1, house.deaths());
            }
            for (char what : "xyasjf".toCharArray()) {
                Check.fails("27 it has ended, " + what, IllegalStateException.class, () -> house.told(what));
            }
            for (int input = 0; input < 6; input++) {
                int given = input;
                Check.fails("26 it has ended, " + input, IllegalStateException.class, () -> house.input(given));
            }
        }
    }

    private static void rises() {
        String[] tower = {"...", "...", "...", "...", "...", "...", "@..", "###"};
        frames("a rise of 1", played(tower), "444444", "0 5 1", "0 4 0", "0 5 0", "0 6 0", "0 5 1", "0 4 0");
        frames("let go at once", played(tower), "4144", "0 5 1", "0 6 0", "0 5 1", "0 4 0");
        // Who lets the jump go has no rise any more, and falls until something bears.
        frames("let go above", played(tower), "44144", "0 5 1", "0 4 0", "0 5 0", "0 6 0", "0 5 1");
        Levelsmith springs = played("....", "....", "....", "....", "....", "....", "@s..", "####");
        frames("a rise of 2", springs, "24444444", "1 6 0", "1 5 2", "1 4 1", "1 3 0", "1 4 0", "1 5 0", "1 6 0", "1 5 2");
        frames("let go with a rise of 2", springs, "144", "1 6 0", "1 5 2", "1 4 1");
        frames("let go with a rise of 1", springs, "114", "1 5 0", "1 6 0", "1 5 2");
        // A rise is kept onto a ledge, used there, and not made anew before it is used up.
        frames("rising onto a ledge", played("...", "...", ".=.", "@..", "###"), "5441", "1 2 1", "1 1 0", "1 0 1", "1 1 0");
    }

    private static void springsWhileRising() {
        // Springs found in the air count from the next jump on.
        Levelsmith house = played("...", "...", "...", "...", "s..", "@..", "###");
        frames("springs on the way up", house, "44444", "0 4 1", "0 3 0", "0 4 0", "0 5 0", "0 4 2");
        Check.same("27 springs", 4, house.told('a'));
    }

    private static void upIntoSolid() {
        // With a rise of 1 left, against a wall and against the top of all, the rise is 0 then.
        frames("a wall above", played("#..", "...", "@..", "###"), "441", "0 1 1", "0 1 0", "0 2 0");
        frames("the top", played("...", "@..", "###"), "441", "0 0 1", "0 0 0", "0 1 0");
        frames("the top behind one frame", played("@..", "###", "..."), "44", "0 0 0", "0 0 0");
        Levelsmith springs = played("#...", "....", "....", "@s..", "####");
        frames("springs under the top", springs, "2544441", "1 3 0", "2 2 2", "2 1 1", "2 0 0", "2 1 0", "2 2 0", "2 3 0");
        Levelsmith wall = played("....", "#...", "....", "@s..", "####");
        frames("springs, a wall above", wall, "2034444", "1 3 0", "0 3 0", "0 2 2", "0 2 0", "0 3 0", "0 2 2", "0 2 0");
        // In water as well, and the rise stays 0.
        frames("a wall above water", played("#..", "~..", "@..", "###"), "4441", "0 1 1", "0 1 0", "0 1 0", "0 2 0");
        Levelsmith wet = new Levelsmith();
        wet.level(3, 3, '~');
        wet.start(0, 1, 0);
        wet.play(0);
        frames("the top in water", wet, "4435", "1 0 0", "1 0 0", "0 0 0", "1 0 0");
    }

    private static void upIntoWhatIsSolidThen() {
        for (char tile : "DcGg".toCharArray()) {
            char opens = tile == 'D' ? 'k' : tile == 'c' ? 'h' : 'S';
            boolean isFirstSolid = tile != 'g';
            Levelsmith house = played("....", "....", "....", "@...", "####");
            house.put(0, 0, 1, tile);
            house.put(0, 1, 3, opens);
            String high = isFirstSolid ? "0 2 0" : "0 1 0";
            frames("up to " + tile, house, "44", "0 2 1", high);
            Check.give(house, "11");
            Check.give(house, "20");
            String then = isFirstSolid ? "0 1 0" : "0 2 0";
            frames("up to " + tile + " behind " + opens, house, "44", "0 2 1", then);
        }
    }

    private static void stepsBeforeAndBehindUp() {
        // The step is done in the row that was come to: up, then aside; down, then aside.
        frames("up and aside", played("...", "##.", "@#.", "###"), "5", "0 2 0");
        frames("up and aside", played("...", "...", "@#.", "###"), "5", "1 1 1");
        frames("up, a wall aside", played("...", ".#.", "@..", "###"), "5", "0 1 1");
        frames("barred above, then aside", played("...", "#..", "@..", "###"), "5", "1 2 0");
        frames("down and aside", played("...", "@#.", "..."), "2", "1 2 0");
        frames("down, a wall aside", played("...", "@..", ".#.", "###"), "22", "0 2 0", "0 2 0");
        frames("water, up and aside", played("...", "@..", "~#.", "###"), "15", "0 2 0", "1 1 0");
        frames("water, down and aside", played("...", "@..", "~..", "~..", "###"), "122", "0 2 0", "1 3 0", "2 3 0");
    }

    private static void steppingIntoSolid() {
        Levelsmith house = played("...", "#@#", "###");
        frames("walls on both sides", house, "0213", "1 1 0", "1 1 0", "1 1 0", "0 0 1");
        // Nobody is hurt by a wall, and a step that is barred is no other cell.
        Levelsmith on = played("#####", "#S@##", "#####");
        frames("onto the switch", on, "000", "1 1 0", "1 1 0", "1 1 0");
        Check.same("27 the switch has gone over once", 1, on.told('s'));
    }

    /** Only a cell that is another one at the end of the frame does something, and only the last one. */
    private static void touching() {
        Levelsmith begun = new Levelsmith();
        for (char tile : "khsS".toCharArray()) {
            begun = new Levelsmith();
            Check.draw(begun, "...", "@..", "###");
            begun.put(0, 0, 1, tile);
            begun.play(0);
            Check.give(begun, "101");
            Check.same("27 begun on " + tile, "0 0", Check.told(begun, "as"));
            Check.give(begun, "20");
            Check.same("27 come back to " + tile, tile == 'S' ? "0 1" : found(tile) + " 0", Check.told(begun, "as"));
            Levelsmith passed = played("....", ".@..", "....", "....");
            passed.fill(0, 0, 2, 4, 1, '#');
            passed.put(0, 1, 0, tile);
            frames("past " + tile, passed, "5", "2 0 1");
            Check.same("27 past " + tile, "0 0", Check.told(passed, "as"));
            Levelsmith under = played("....", ".@..", "####");
            under.put(0, 1, 0, tile);
            frames("up to " + tile, under, "4", "1 0 1");
            Check.same("27 up to " + tile, tile == 'S' ? "0 1" : found(tile) + " 0", Check.told(under, "as"));
            Levelsmith fallen = played(".@..", "....", "####");
            fallen.put(0, 1, 1, tile);
            frames("down to " + tile, fallen, "1", "1 1 0");
            Check.same("27 down to " + tile, tile == 'S' ? "0 1" : found(tile) + " 0", Check.told(fallen, "as"));
            putUnder(tile);
        }
    }

    /** What is put under a player who stays does nothing. */
    private static void putUnder(char tile) {
        Levelsmith house = played("...", "@..", "###");
        house.put(0, 0, 1, tile);
        Check.give(house, "110");
        Check.same("27 put under, " + tile, "0 0", Check.told(house, "as"));
    }

    private static void switchGoesOverEachTime() {
        Levelsmith house = played("#####", "@SS.#", "#####");
        frames("two switches", house, "2", "1 1 0");
        Check.same("27 on", 1, house.told('s'));
        house.input(2);
        Check.same("27 off by the next one", 0, house.told('s'));
        house.input(1);
        Check.same("27 off yet", 0, house.told('s'));
        house.input(0);
        Check.same("27 on by the way back", 1, house.told('s'));
        house.input(0);
        Check.same("27 on aside", 1, house.told('s'));
        house.play(0);
        Check.same("25 off again for a new game", 0, house.told('s'));
    }

    private static void thingsStay() {
        Levelsmith house = played("#####", "@khs#", "#####");
        Check.give(house, "222222");
        Check.same("27 all", 7, house.told('a'));
        Check.same("26 they stay in the level", ".khs#", Check.row(house, 0, 1, 5));
        Check.give(house, "000");
        Check.same("27 found twice counts once", 7, house.told('a'));
        house.play(0);
        Check.same("25 nothing is found at first", 0, house.told('a'));
        Check.give(house, "22");
        Check.same("27 found anew", 3, house.told('a'));
    }

    private static void deadAheadOfWon() {
        // A guard at the exit in this phase, ahead of it, and behind it.
        for (int guardX = 0; guardX < 3; guardX++) {
            for (int far = 0; far <= 2 - guardX; far++) {
                Levelsmith house = new Levelsmith();
                Check.draw(house, "...", "...", "###");
                house.put(0, 1, 1, 'E');
                house.start(0, 0, 1);
                house.guard(0, guardX, far, 1);
                house.play(0);
                boolean isThere = guardX + Math.min(far, 1) == 1;
                Check.same("26 guard from " + guardX + " far " + far, isThere ? 'd' : 'w', house.input(2));
            }
        }
    }

    private static void beginnings() {
        // On spikes, on a guard, at the exit: nothing has happened yet when the game begins.
        Levelsmith spikes = new Levelsmith();
        Check.draw(spikes, "...", "...", "###");
        spikes.put(0, 1, 1, '^');
        spikes.start(0, 1, 1);
        spikes.play(0);
        Check.same("27 on spikes at first", "1 1", Check.told(spikes, "xy"));
        Check.same("28 nobody died", 0, spikes.deaths());
        Check.same("26 stays on spikes", 'd', spikes.input(1));
        for (int input : new int[] {0, 2, 3, 4, 5}) {
            spikes.play(0);
            Check.same("26 leaves spikes by " + input, 'p', spikes.input(input));
        }
        Levelsmith guard = new Levelsmith();
        Check.draw(guard, "...", "...", "###");
        guard.start(0, 1, 1);
        guard.guard(0, 1, 1, 1);
        guard.play(0);
        Check.same("27 at a guard at first", "1 1", Check.told(guard, "xy"));
        Check.same("26 the guard goes aside", "pd", Check.give(guard, "11"));
        Levelsmith exit = new Levelsmith();
        Check.draw(exit, "...", "...", "###");
        exit.put(0, 1, 1, 'E');
        exit.start(0, 1, 1);
        exit.play(0);
        Check.same("27 at the exit at first", "1 1", Check.told(exit, "xy"));
        Check.same("26 stays at the exit", 'w', exit.input(1));
        exit.play(0);
        Check.same("26 leaves it and comes back", "pw", Check.give(exit, "20"));
    }

    private static void standingInSolid() {
        for (char tile : "#DcG".toCharArray()) {
            Levelsmith house = played("....", ".@..", "####");
            house.put(0, 1, 1, tile);
            frames("in " + tile, house, "11", "1 1 0", "1 1 0");
            frames("up out of " + tile, house, "4", "1 0 1");
            Levelsmith aside = played("....", ".@..", "####");
            aside.put(0, 1, 1, tile);
            frames("aside out of " + tile, aside, "202", "2 1 0", "2 1 0", "3 1 0");
            Levelsmith all = played("###", "#@#", "###");
            all.put(0, 1, 1, tile);
            frames("walled in " + tile, all, "012345", "1 1 0", "1 1 0", "1 1 0", "1 1 0", "1 1 0", "1 1 0");
            Levelsmith over = played("....", ".@..", "....", "####");
            over.put(0, 1, 1, tile);
            frames("down out of " + tile, over, "1", "1 2 0");
        }
        // A grill that closes round the player.
        Levelsmith grill = played("...", "@..", "###");
        grill.put(0, 1, 1, 'S');
        Check.give(grill, "2");
        grill.put(0, 1, 1, 'g');
        frames("in a grill that is solid", grill, "1120", "1 1 0", "1 1 0", "2 1 0", "2 1 0");
    }

    /** A guard in the column c of a way from 0 to 6 is there in the phases c and 12 - c, also rounds later. */
    private static void phases() {
        for (int column = 0; column <= 6; column++) {
            for (int frames = 0; frames <= 26; frames++) {
                Levelsmith house = new Levelsmith();
                house.level(12, 3, '.');
                house.fill(0, 0, 2, 12, 1, '#');
                house.start(0, column, 1);
                house.play(0);
                Check.give(house, "1".repeat(frames));
                house.save(1);
                house.guard(0, 0, 6, 1);
                boolean isThere = frames % 12 == column || frames % 12 == (12 - column) % 12;
                if (isThere) {
                    Check.fails("30 column " + column + " behind " + frames, UNSUPPORTED, () -> house.load(1));
                } else {
                    Check.same("30 column " + column + " behind " + frames, 0, house.load(1));
                }
                int next = frames + 1;
                boolean willBe = next % 12 == column || next % 12 == (12 - column) % 12;
                Check.same("26 column " + column + " behind " + frames, willBe ? 'd' : 'p', house.input(1));
            }
        }
    }
}
