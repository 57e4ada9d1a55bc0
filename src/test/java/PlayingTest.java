import java.util.NoSuchElementException;

/** Promises 25 to 36: frames as they are played, and games and runs that are kept. */
public final class PlayingTest {
    private static final Class<?> INDEX = IndexOutOfBoundsException.class;
    private static final Class<?> ARGUMENT = IllegalArgumentException.class;
    private static final Class<?> STATE = IllegalStateException.class;
    private static final Class<?> NONE = NoSuchElementException.class;
    private static final Class<?> UNSUPPORTED = UnsupportedOperationException.class;

    public static void main(String[] args) {
        play();
        walking();
        jumping();
        springs();
        plates();
        water();
        doorsAndCracks();
        switches();
        whatHasBecomeSolid();
        dying();
        winning();
        guards();
        inputs();
        told();
        deaths();
        save();
        load();
        loadOntoChanged();
        keep();
        length();
        replay();
        isTrue();
        isPatched();
        ghost();
        Check.end("PlayingTest");
    }

    private static Levelsmith played(String... rows) {
        Levelsmith house = new Levelsmith();
        house.play(Check.draw(house, rows));
        return house;
    }

    /** Gives an input, and tells the answer with the column, the row and the rise. */
    private static String frame(Levelsmith house, int input) {
        char end = house.input(input);
        return end == 'p' ? Check.told(house, "xyj") : String.valueOf(end);
    }

    private static void frames(Levelsmith house, String inputs, String... due) {
        for (int i = 0; i < inputs.length(); i++) {
            Check.same("26 frame " + i + " of " + inputs, due[i], frame(house, inputs.charAt(i) - '0'));
        }
    }

    private static void play() {
        Levelsmith house = new Levelsmith();
        Check.fails("25 no level", INDEX, () -> house.play(0));
        Check.draw(house, "....", "..@.", "####");
        Check.same("25 the start", 14, house.play(0));
        house.input(2);
        house.input(4);
        Check.same("25 again", 14, house.play(0));
        Check.same("25 from the beginning", "2 1 0 0 0 0", Check.told(house, "xyasjf"));
        Check.fails("25 no level", INDEX, () -> house.play(1));
        Check.fails("25 no level", INDEX, () -> house.play(-1));
        Check.same("25 the game goes on", "2 1", Check.told(house, "xy"));
    }

    private static void walking() {
        frames(played("...", ".@.", "###"), "0012222", "0 1 0", "0 1 0", "0 1 0", "1 1 0", "2 1 0", "2 1 0", "2 1 0");
        frames(played("#.#", "#@#", "###"), "021", "1 1 0", "1 1 0", "1 1 0");
    }

    private static void jumping() {
        String[] room = {"....", "....", "....", "....", ".@..", "####"};
        frames(played(room), "4441", "1 3 1", "1 2 0", "1 3 0", "1 4 0");
        frames(played(room), "414", "1 3 1", "1 4 0", "1 3 1");
        frames(played(room), "552", "2 3 1", "3 2 0", "3 3 0");
        frames(played(room), "303", "0 3 1", "0 4 0", "0 3 1");
        // What is above is solid: beyond the level, and a wall.
        frames(played("...", ".@.", "###"), "4441", "1 0 1", "1 0 0", "1 1 0", "1 1 0");
        frames(played("...", ".#.", ".@.", "###"), "4454", "1 2 0", "1 2 0", "2 2 0", "2 1 1");
        // Up first, then aside; a corner is not cut when the way up is barred.
        frames(played("....", ".@#.", "####"), "5", "2 0 1");
        frames(played(".#..", ".@#.", "####"), "5", "1 1 0");
        // Who has a rise uses it up, even where one could stand; without one, one stands and jumps anew.
        String[] ledges = {".....", ".....", "..#..", "@#...", "#####"};
        frames(played(ledges), "544", "1 2 1", "1 1 0", "1 2 0");
        frames(played(ledges), "5554", "1 2 1", "2 1 0", "3 0 1", "3 0 0");
        // A step out over nothing: the fall begins in the next frame, and no jump is left.
        frames(played("....", "@...", "#...", "####"), "252", "1 1 0", "2 2 0", "3 2 0");
    }

    private static void springs() {
        Levelsmith house = played(".....", ".....", ".....", ".....", "@s...", "#####");
        frames(house, "24444", "1 4 0", "1 3 2", "1 2 1", "1 1 0", "1 2 0");
        frames(house, "4", "1 3 0");
        Check.same("27 springs", 4, house.told('a'));
    }

    private static void plates() {
        Levelsmith house = played("...", "...", "=..", "@..", "###");
        // Through the plate from below, and onto it from above.
        frames(house, "4411", "0 2 1", "0 1 0", "0 1 0", "0 1 0");
        frames(house, "4", "0 0 1");
        // In a plate one is not stopped, and falls out of it below.
        Levelsmith aside = played("...", "@=.", "#..", "###");
        frames(aside, "211", "1 1 0", "1 2 0", "1 2 0");
    }

    private static void water() {
        // Down until something bears; up as long as the jump is held; out of it no rise is left.
        Levelsmith house = played("....", ".@..", ".~..", ".~..", "####");
        frames(house, "1111", "1 2 0", "1 3 0", "1 3 0", "1 3 0");
        frames(house, "4441", "1 2 0", "1 1 0", "1 2 0", "1 3 0");
        // A rise does not last in water.
        Levelsmith rising = played("...", "~..", "@..", "###");
        frames(rising, "414", "0 1 1", "0 2 0", "0 1 1");
        Levelsmith up = played("...", "~..", "~..", "@..", "###");
        frames(up, "4444", "0 2 1", "0 1 0", "0 0 0", "0 1 0");
        // Under what is solid one stays.
        frames(played("#..", "~..", "@..", "###"), "44", "0 1 1", "0 1 0");
        // On a plate in water one does not sink.
        frames(played("...", "@..", "~..", "=..", "..."), "111", "0 2 0", "0 2 0", "0 2 0");
        // Water in the lowest row has nothing below it.
        Levelsmith lowest = played("...", "@..", "~..");
        frames(lowest, "14", "0 2 0", "0 1 0");
        Levelsmith lost = played("...", "@..", "~..");
        Check.same("26 down out of water", "pd", Check.give(lost, "11"));
        // From the start on in water.
        Levelsmith house2 = new Levelsmith();
        house2.level(3, 3, '~');
        house2.start(0, 1, 1);
        house2.play(0);
        frames(house2, "53", "2 0 0", "1 0 0");
    }

    private static void doorsAndCracks() {
        Levelsmith house = played("######", "#k@Dc#", "######");
        frames(house, "2", "2 1 0");
        Check.same("27 nothing yet", 0, house.told('a'));
        frames(house, "0", "1 1 0");
        Check.same("27 keys", 1, house.told('a'));
        Check.same("26 keys stay in the level", 'k', house.tile(0, 1, 1));
        frames(house, "222", "2 1 0", "3 1 0", "3 1 0");
        Levelsmith crack = played("######", "#h@cD#", "######");
        frames(crack, "20222", "2 1 0", "1 1 0", "2 1 0", "3 1 0", "3 1 0");
        Check.same("27 hammers", 2, crack.told('a'));
        // A door bears without keys only.
        Levelsmith trap = played("...", "k@.", "#D#", "...", "###");
        frames(trap, "1021", "1 1 0", "0 1 0", "1 1 0", "1 2 0");
        // Who begins on keys has not found them; a step away and back finds them.
        Levelsmith on = played("####", ".@..", "####");
        on.put(0, 1, 1, 'k');
        on.play(0);
        on.input(1);
        Check.same("27 begun on keys", 0, on.told('a'));
        Check.give(on, "20");
        Check.same("27 come back to keys", 1, on.told('a'));
        Levelsmith all = played("#####", "@khs.", "#####");
        Check.give(all, "222");
        Check.same("27 all things", 7, all.told('a'));
    }

    private static void switches() {
        Levelsmith house = played("######", "#S@Gg#", "######");
        frames(house, "2", "2 1 0");
        Check.same("27 off", 0, house.told('s'));
        frames(house, "0", "1 1 0");
        Check.same("27 on", 1, house.told('s'));
        house.input(1);
        Check.same("27 to stay does not turn it", 1, house.told('s'));
        frames(house, "222", "2 1 0", "3 1 0", "3 1 0");
        frames(house, "00", "2 1 0", "1 1 0");
        Check.same("27 off again", 0, house.told('s'));
        frames(house, "22", "2 1 0", "2 1 0");
        Levelsmith grill = played("######", "S.@gG#", "######");
        frames(grill, "22", "3 1 0", "3 1 0");
        // Only the cell at the end of the frame counts.
        Levelsmith through = played("....", ".S..", ".@..", "####");
        frames(through, "5", "2 1 1");
        Check.same("27 not come through", 0, through.told('s'));
        Levelsmith above = played("....", "S...", "@...", "####");
        frames(above, "4", "0 1 1");
        Check.same("27 come from below", 1, above.told('s'));
        Levelsmith fallen = played(".@.", "...", "S.k", "###");
        frames(fallen, "012", "0 1 0", "0 2 0", "1 2 0");
        Check.same("27 fallen onto it", 1, fallen.told('s'));
        // A gate bears while it is off, a grill while it is on.
        frames(played("...", ".@S", "#G#", "...", "###"), "120", "1 1 0", "2 1 0", "1 1 0");
        Levelsmith opened = played("...", ".@S", "#G#", "...", "###");
        Check.give(opened, "20");
        frames(opened, "1", "1 2 0");
        frames(played("...", ".@S", "#g#", "...", "###"), "1", "1 2 0");
    }

    private static void whatHasBecomeSolid() {
        Levelsmith house = played("....", ".@..", "####");
        house.put(0, 1, 1, '#');
        frames(house, "11", "1 1 0", "1 1 0");
        frames(house, "20", "2 1 0", "2 1 0");
        // The switch turns over by a step into a gate's cell, which was put there: what it closes does nothing.
        Levelsmith start = new Levelsmith();
        int level = Check.draw(start, "###", "#@#", "###");
        start.put(level, 1, 1, '#');
        start.play(level);
        frames(start, "4", "1 1 0");
    }

    private static void dying() {
        Levelsmith below = played("...", "...", "@..");
        Check.same("26 below all", 'd', below.input(4));
        Check.fails("26 it has ended", STATE, () -> below.input(1));
        Check.fails("27 it has ended", STATE, () -> below.told('x'));
        Levelsmith spikes = played("###", "@^E", "###");
        Check.same("26 spikes", "pd", Check.give(spikes, "12"));
        Levelsmith over = played("....", ".^..", ".@..", "####");
        frames(over, "5", "2 1 1");
        Levelsmith start = new Levelsmith();
        Check.draw(start, "...", "@..", "###");
        start.put(0, 0, 1, '^');
        start.play(0);
        Check.same("26 who stays on spikes", 'd', start.input(1));
        start.play(0);
        Check.same("26 who leaves spikes", 'p', start.input(2));
    }

    private static void winning() {
        Levelsmith house = played("###", "@.E", "###");
        Check.same("26 won", "pw", Check.give(house, "22"));
        Check.fails("26 it has ended", STATE, () -> house.input(1));
        Levelsmith stays = new Levelsmith();
        Check.draw(stays, "...", "...", "###");
        stays.put(0, 0, 1, 'E');
        stays.start(0, 0, 1);
        stays.play(0);
        Check.same("26 who leaves the exit", 'p', stays.input(2));
        stays.play(0);
        Check.same("26 who stays at the exit", 'w', stays.input(1));
        Levelsmith guarded = new Levelsmith();
        Check.draw(guarded, "...", "@E.", "###");
        guarded.guard(0, 1, 0, 1);
        guarded.play(0);
        Check.same("26 dead counts ahead of won", 'd', guarded.input(2));
        Levelsmith passed = played("...", ".E.", ".@.", "###");
        Check.same("26 past the exit", 'p', passed.input(5));
    }

    private static void guards() {
        Levelsmith house = new Levelsmith();
        Check.draw(house, "....", "@...", "####");
        house.guard(0, 0, 3, 1);
        house.play(0);
        Check.same("26 in the phase 6 the guard is back", "pppppd", Check.give(house, "111111"));
        house.play(0);
        // Behind the first frame the guard is in the column 1.
        Check.same("26 into the guard", 'd', house.input(2));
        house.play(0);
        Check.same("26 above the guard", 'p', house.input(5));
        house.start(0, 1, 1);
        house.play(0);
        // The guard goes from 0 to 1 while the player goes from 1 to 0.
        Check.same("26 through one another", 'p', house.input(0));
        // Phases begin again behind the twelfth frame.
        Levelsmith far = new Levelsmith();
        Check.draw(far, "........", "@.......", "########");
        far.guard(0, 0, 6, 1);
        far.play(0);
        Check.same("26 twelve frames", "pppppppppppd", Check.give(far, "111111111111"));
        Levelsmith still = new Levelsmith();
        Check.draw(still, "....", "@...", "####");
        still.guard(0, 1, 0, 0);
        still.play(0);
        Check.same("26 another row", "pd", Check.give(still, "24"));
    }

    private static void inputs() {
        Levelsmith house = played("###", "#@#", "###");
        for (int input : new int[] {-1, 6, Integer.MIN_VALUE, Integer.MAX_VALUE}) {
            Check.fails("26 input " + input, ARGUMENT, () -> house.input(input));
        }
        Check.same("26 none was given", 0, house.told('f'));
        Check.same("26 150 inputs", "p".repeat(150), Check.give(house, "1".repeat(150)));
        Check.fails("26 the 151st", STATE, () -> house.input(1));
        Check.fails("26 no such input", ARGUMENT, () -> house.input(6));
        Check.same("27 it goes on", 150, house.told('f'));
        Check.fails("31 it has not ended", UNSUPPORTED, () -> house.keep());
        Check.same("29 it can be saved", false, house.save(0));
        Levelsmith won = played("...", "@.E", "###");
        Check.give(won, "1".repeat(148) + "2");
        Check.same("26 the 150th wins", 'w', won.input(2));
        Check.same("31 it is kept", 0, won.keep());
        Check.same("32 its length", 150, won.length(0));
        Check.same("34 it is true", true, won.isTrue(0));
        Check.fails("26 no game", STATE, () -> new Levelsmith().input(0));
        Check.fails("26 no game and no input", ARGUMENT, () -> new Levelsmith().input(7));
    }

    private static void told() {
        Levelsmith house = played("....", ".S..", "@h..", "####");
        Check.same("27 at first", "0 2 0 0 0 0", Check.told(house, "xyasjf"));
        Check.give(house, "24");
        Check.same("27 behind two frames", "1 1 2 1 1 2", Check.told(house, "xyasjf"));
        Check.fails("27 no letter", ARGUMENT, () -> house.told('X'));
        Check.fails("27 no letter", ARGUMENT, () -> house.told('\uffff'));
        Check.fails("27 no game", STATE, () -> new Levelsmith().told('f'));
        Check.fails("27 no game and no letter", ARGUMENT, () -> new Levelsmith().told('e'));
    }

    private static void deaths() {
        Levelsmith house = played("...", "@^.", "###");
        Check.same("28 none", 0, house.deaths());
        house.input(1);
        house.save(0);
        house.input(2);
        Check.same("28 one", 1, house.deaths());
        house.load(0);
        Check.same("28 loading is none", 1, house.deaths());
        house.input(2);
        Check.same("28 a loaded game", 2, house.deaths());
        house.play(0);
        house.input(2);
        house.keep();
        house.replay(0);
        house.ghost(0, 0, 'x');
        house.put(0, 2, 1, 'E');
        house.bot(0, 0, 100, 3, 5);
        Check.same("28 neither replays nor bots", 3, house.deaths());
    }

    private static void save() {
        Levelsmith house = new Levelsmith();
        Check.fails("29 no game", STATE, () -> house.save(0));
        Check.fails("29 no game and no slot", INDEX, () -> house.save(6));
        Check.draw(house, "...", "@.E", "###");
        house.play(0);
        Check.same("29 first", false, house.save(0));
        Check.same("29 the same slot", true, house.save(0));
        Check.same("29 the last slot", false, house.save(5));
        Check.fails("29 no slot", INDEX, () -> house.save(6));
        Check.fails("29 slot below 0", INDEX, () -> house.save(-1));
        Check.give(house, "22");
        Check.fails("29 it has ended", STATE, () -> house.save(0));
        Check.same("30 what was saved stays", 0, house.load(0));
        Check.same("30 at the start", "0 1", Check.told(house, "xy"));
    }

    private static void load() {
        Levelsmith house = new Levelsmith();
        Check.draw(house, "###", "###", "###");
        Check.draw(house, ".....", ".k...", "@.S.E", "#####");
        Check.fails("30 no slot", INDEX, () -> house.load(6));
        Check.fails("30 slot below 0", INDEX, () -> house.load(-1));
        Check.fails("30 none in it", NONE, () -> house.load(0));
        house.guard(1, 0, 6 - 3, 3);
        house.play(1);
        Check.give(house, "51");
        Check.same("30 ahead", "1 2 1 0 0 2", Check.told(house, "xyasjf"));
        house.input(5);
        Check.same("30 saved", "2 1 1 0 1 3", Check.told(house, "xyasjf"));
        house.save(3);
        Check.give(house, "12");
        house.play(0);
        Check.same("30 its level", 1, house.load(3));
        Check.same("30 as it was, without inputs", "2 1 1 0 1 0", Check.told(house, "xyasjf"));
        Check.same("30 goes on", "p", Check.give(house, "1"));
        Check.same("30 the switch", "2 2 1 1 0 1", Check.told(house, "xyasjf"));
        Check.same("30 wins", "pw", Check.give(house, "22"));
        Check.fails("31 it was loaded", UNSUPPORTED, () -> house.keep());
        Check.same("30 again", 1, house.load(3));
        Check.same("30 150 inputs more", "p".repeat(150), Check.give(house, "1".repeat(150)));
        Check.fails("30 not one more", STATE, () -> house.input(1));
        house.play(1);
        Check.same("31 begun anew", "pppw", Check.give(house, "2522"));
        Check.same("31 it can be kept", 0, house.keep());
    }

    private static void canLoad(boolean due, char tile, Levelsmith house) {
        house.put(0, 1, 2, tile);
        if (due) {
            Check.same("30 onto " + tile, 0, house.load(0));
        } else {
            Check.fails("30 onto " + tile, UNSUPPORTED, () -> house.load(0));
        }
    }

    private static void loadOntoChanged() {
        String onAir = ".=~SkhsEg";
        String[] rows = {"....", "....", "@...", "####"};
        Levelsmith house = played(rows);
        house.input(2);
        house.save(0);
        for (char tile : ".#=~^DcGgSkhsE".toCharArray()) {
            canLoad(onAir.indexOf(tile) >= 0, tile, house);
        }
        // The state has keys and the switch on.
        Levelsmith keys = played("....", "....", "@..k", "####");
        keys.put(0, 1, 2, 'S');
        Check.give(keys, "222000");
        Check.same("30 state", "0 2 1 0", Check.told(keys, "xyas"));
        Check.give(keys, "2");
        Check.same("30 state", "1 2 1 1", Check.told(keys, "xyas"));
        keys.save(0);
        for (char tile : ".#=~^DcGgSkhsE".toCharArray()) {
            canLoad(".=~DGSkhsE".indexOf(tile) >= 0, tile, keys);
        }
        guardsAgainstLoading(rows);
        // What cannot go on changes nothing: the game that has ended can be kept yet.
        Levelsmith kept = played("...", "@.E", "###");
        kept.save(0);
        Check.give(kept, "22");
        kept.put(0, 0, 1, '#');
        Check.fails("30 onto a wall", UNSUPPORTED, () -> kept.load(0));
        Check.same("30 nothing was changed", 0, kept.keep());
    }

    private static void guardsAgainstLoading(String[] rows) {
        Levelsmith house = played(rows);
        Check.give(house, "21111");
        house.save(0);
        // Behind five frames this guard is in the column 0, and that one in the column 1.
        house.guard(0, 0, 2, 1);
        Check.same("30 a guard in another row", 0, house.load(0));
        house.guard(0, 0, 3, 2);
        Check.fails("30 a guard is there in its phase", UNSUPPORTED, () -> house.load(0));
        Levelsmith other = played(rows);
        Check.give(other, "21111");
        other.save(0);
        other.guard(0, 1, 1, 2);
        Check.same("30 a guard is there in another phase", 0, other.load(0));
        Check.same("30 and in the next frame", 'd', other.input(1));
    }

    private static void keep() {
        Levelsmith house = new Levelsmith();
        Check.fails("31 no game", UNSUPPORTED, () -> house.keep());
        Check.draw(house, "...", "@^E", "###");
        house.play(0);
        Check.fails("31 it goes on", UNSUPPORTED, () -> house.keep());
        house.input(2);
        for (int run = 0; run < 10; run++) {
            Check.same("31 also again", run, house.keep());
        }
        Check.fails("31 eleventh", STATE, () -> house.keep());
        house.play(0);
        Check.fails("31 another game goes on", UNSUPPORTED, () -> house.keep());
        Check.fails("32 no eleventh", INDEX, () -> house.length(10));
        Check.same("32 the tenth", 1, house.length(9));
    }

    private static Levelsmith kept(String inputs, String... rows) {
        Levelsmith house = played(rows);
        Check.give(house, inputs);
        house.keep();
        return house;
    }

    private static void length() {
        Levelsmith house = kept("1122", "...", "@.E", "###");
        Check.same("32 its inputs", 4, house.length(0));
        house.put(0, 1, 1, 'E');
        Check.same("33 it ends earlier", 'w', house.replay(0));
        Check.same("32 its inputs yet", 4, house.length(0));
        Check.fails("32 no run", INDEX, () -> house.length(1));
        Check.fails("32 no run", INDEX, () -> house.length(-1));
    }

    private static void replay() {
        Levelsmith house = kept("1122", "....", "@.E.", "####");
        Check.same("33 won", 'w', house.replay(0));
        house.put(0, 1, 1, '^');
        Check.same("33 dead", 'd', house.replay(0));
        house.put(0, 1, 1, '#');
        Check.same("33 no end", 'p', house.replay(0));
        house.put(0, 1, 1, 'E');
        Check.same("33 won earlier", 'w', house.replay(0));
        house.fill(0, 1, 1, 2, 1, '.');
        house.start(0, 3, 1);
        house.put(0, 3, 1, 'E');
        Check.same("33 from the start of now", 'w', house.replay(0));
        Check.fails("33 no run", INDEX, () -> house.replay(1));
        Check.fails("33 no run", INDEX, () -> house.replay(-1));
        // A replay leaves the game alone.
        house.play(0);
        house.replay(0);
        Check.same("33 the game goes on", "3 1 0", Check.told(house, "xyf"));
    }

    private static void isTrue() {
        Levelsmith house = kept("1122", "....", "@.E.", "####");
        Check.same("34 at once", true, house.isTrue(0));
        house.put(0, 1, 1, 'E');
        Check.same("34 won earlier", false, house.isTrue(0));
        house.put(0, 1, 1, '^');
        Check.same("34 dead", false, house.isTrue(0));
        house.put(0, 1, 1, '.');
        Check.same("34 as before", true, house.isTrue(0));
        house.put(0, 2, 1, '^');
        Check.same("34 dead with the last input", false, house.isTrue(0));
        house.put(0, 2, 1, '.');
        Check.same("34 no end", false, house.isTrue(0));
        Levelsmith died = kept("12", "...", "@^.", "###");
        Check.same("34 dead as it was", true, died.isTrue(0));
        died.put(0, 1, 1, 'E');
        Check.same("34 won now", false, died.isTrue(0));
        Check.fails("34 no run", INDEX, () -> died.isTrue(1));
        // The level was another one while the run was played.
        Levelsmith changed = played("....", "@..E", "####");
        Check.give(changed, "2");
        changed.put(0, 1, 1, '^');
        Check.give(changed, "22");
        changed.keep();
        Check.same("34 never true", false, changed.isTrue(0));
        Check.same("35 not changed since", false, changed.isPatched(0));
        Check.same("33 dead", 'd', changed.replay(0));
    }

    private static void isPatched() {
        Check.fails("35 no run", INDEX, () -> new Levelsmith().isPatched(0));
        String[] rows = {"....", "@..E", "####"};
        Levelsmith house = kept("222", rows);
        Check.same("35 not changed", false, house.isPatched(0));
        house.copy(0);
        house.put(1, 0, 0, '#');
        house.mend(0);
        house.tile(0, 0, 0);
        Check.fails("35 no change", ARGUMENT, () -> house.put(0, 0, 0, '?'));
        Check.fails("35 no change", ARGUMENT, () -> house.fill(0, 0, 0, 9, 1, '.'));
        Check.fails("35 no change", INDEX, () -> house.start(0, 9, 0));
        Check.fails("35 no change", ARGUMENT, () -> house.guard(0, 0, 4, 0));
        house.play(0);
        house.bot(0, 0, 50, 1, 3);
        Check.same("35 not changed yet", false, house.isPatched(0));
        house.put(0, 0, 0, '.');
        Check.same("35 put as before", true, house.isPatched(0));
        Levelsmith filled = kept("222", rows);
        filled.fill(0, 0, 0, 4, 1, '.');
        Check.same("35 filled as before", true, filled.isPatched(0));
        Levelsmith started = kept("222", rows);
        started.start(0, 0, 1);
        Check.same("35 started as before", true, started.isPatched(0));
        Levelsmith guarded = kept("222", rows);
        guarded.guard(0, 3, 0, 0);
        Check.same("35 guarded", true, guarded.isPatched(0));
        Check.same("35 but true", true, guarded.isTrue(0));
        Levelsmith grown = kept("222", rows);
        grown.grow(0, 1);
        Check.same("35 grown", true, grown.isPatched(0));
        Levelsmith mended = played("####", "@.#E", "####");
        mended.put(0, 1, 1, '^');
        mended.play(0);
        mended.input(2);
        mended.keep();
        Check.same("35 not mended", false, mended.isPatched(0));
        mended.put(0, 1, 1, '.');
        mended.play(0);
        mended.put(0, 0, 1, '^');
        mended.input(1);
        mended.keep();
        Check.same("35 the first one", true, mended.isPatched(0));
        Check.same("35 the second one", false, mended.isPatched(1));
        mended.mend(0);
        Check.same("35 mended", true, mended.isPatched(1));
        Levelsmith both = kept("222", "....", "@..E", "####");
        both.fill(0, 2, 0, 1, 2, '#');
        both.mend(0);
        Check.same("35 filled and mended", true, both.isPatched(0));
    }

    private static void ghost() {
        Levelsmith house = kept("512", "....", "@.^E", "####");
        Check.same("36 died", 3, house.length(0));
        Check.same("36 at first", "0 1", house.ghost(0, 0, 'x') + " " + house.ghost(0, 0, 'y'));
        Check.same("36 behind one", "1 0", house.ghost(0, 1, 'x') + " " + house.ghost(0, 1, 'y'));
        Check.same("36 behind two", "1 1", house.ghost(0, 2, 'x') + " " + house.ghost(0, 2, 'y'));
        Check.fails("36 it has ended", NONE, () -> house.ghost(0, 3, 'x'));
        Check.fails("36 beyond its length", ARGUMENT, () -> house.ghost(0, 4, 'x'));
        Check.fails("36 below 0", ARGUMENT, () -> house.ghost(0, -1, 'x'));
        Check.fails("36 no letter", ARGUMENT, () -> house.ghost(0, 0, 'f'));
        Check.fails("36 no letter, and ended", ARGUMENT, () -> house.ghost(0, 3, 'z'));
        Check.fails("36 no run", INDEX, () -> house.ghost(1, -1, 'z'));
        house.put(0, 2, 1, '.');
        Check.same("36 it goes on now", "2 1", house.ghost(0, 3, 'x') + " " + house.ghost(0, 3, 'y'));
        house.put(0, 1, 0, '^');
        Check.fails("36 it ends earlier now", NONE, () -> house.ghost(0, 1, 'y'));
    }
}
