import java.util.NoSuchElementException;

/** The edges of games, saved ones, runs, bots and shown levels: promises 25 to 42. */
public final class GameEdgesTest {
    private static final Class<?> INDEX = IndexOutOfBoundsException.class;
    private static final Class<?> STATE = IllegalStateException.class;
    private static final Class<?> NONE = NoSuchElementException.class;
    private static final Class<?> UNSUPPORTED = UnsupportedOperationException.class;

    public static void main(String[] args) {
        asAtFirst();
        lastInputs();
        savedGames();
        savedBeginnings();
        savedOntoGrown();
        keptOnce();
        tenRuns();
        replays();
        trueOrNot();
        patchedByAll();
        patchedByTwo();
        notPatched();
        ghosts();
        botsLate();
        botsOneFrameLate();
        botErrors();
        botFrames();
        botFramesToDeath();
        botsAnew();
        botsFromTheBeginning();
        shownFrames();
        shownSame();
        shownRanks();
        shownAsItWas();
        Check.end("GameEdgesTest");
    }

    private static Levelsmith drawn(String... rows) {
        Levelsmith house = new Levelsmith();
        Check.draw(house, rows);
        return house;
    }

    private static Levelsmith corridor() {
        return drawn("....", "@..E", "####");
    }

    private static int playAndKeep(Levelsmith house, int level, String inputs) {
        house.play(level);
        Check.give(house, inputs);
        return house.keep();
    }

    private static void asAtFirst() {
        Levelsmith house = drawn("#####", "@khsS", "#####");
        long sum = house.checksum(0);
        for (int game = 0; game < 3; game++) {
            Check.same("25 the start", 12, house.play(0));
            Check.same("25 as at first", "0 1 0 0 0 0", Check.told(house, "xyasjf"));
            Check.give(house, "2222");
            Check.same("27 all", "4 1 7 1 0 4", Check.told(house, "xyasjf"));
        }
        Check.same("26 the level is as before", sum, house.checksum(0));
        // The phase is as at first as well.
        Levelsmith guarded = drawn("...", "@..", "###");
        guarded.guard(0, 0, 2, 1);
        for (int frames = 0; frames < 4; frames++) {
            guarded.play(0);
            Check.same("26 four frames", "pppd", Check.give(guarded, "1111"));
            guarded.play(0);
            Check.give(guarded, "1".repeat(frames));
        }
    }

    private static void lastInputs() {
        for (int length : new int[] {1, 149, 150}) {
            Levelsmith won = drawn("...", "@E.", "###");
            won.play(0);
            Check.give(won, "1".repeat(length - 1));
            Check.same("26 won by the input " + length, 'w', won.input(2));
            Check.same("31 won by the input " + length, 0, won.keep());
            Check.same("32 length", length, won.length(0));
            Check.same("33 again", 'w', won.replay(0));
            Check.same("34 true", true, won.isTrue(0));
            Check.same("40 shown", 1, won.publish(0, 9, 0));
            Check.same("41 shown", 9000 + length, won.makerAt(0));
            Levelsmith dead = drawn("...", "@^.", "###");
            dead.play(0);
            Check.give(dead, "1".repeat(length - 1));
            Check.same("26 dead by the input " + length, 'd', dead.input(2));
            Check.same("28 dead by the input " + length, 1, dead.deaths());
            Check.same("31 dead by the input " + length, 0, dead.keep());
            Check.same("32 length", length, dead.length(0));
            Check.same("33 again", 'd', dead.replay(0));
        }
        Levelsmith house = corridor();
        house.play(0);
        Check.give(house, "1".repeat(149));
        Check.same("27 but one", 149, house.told('f'));
        Check.same("26 the last one", 'p', house.input(1));
        Check.same("27 all", 150, house.told('f'));
        Check.fails("26 no more", STATE, () -> house.input(1));
        Check.same("27 all", 150, house.told('f'));
        Check.same("29 it goes on yet", false, house.save(3));
        house.play(0);
        Check.same("26 a new game", "p".repeat(150), Check.give(house, "1".repeat(150)));
        house.load(3);
        Check.same("27 none", 0, house.told('f'));
        Check.same("26 a loaded game", 'p', house.input(1));
        Check.same("27 one", 1, house.told('f'));
    }

    private static void savedGames() {
        Levelsmith house = drawn("......", "@.....", "######");
        house.play(0);
        house.input(2);
        Check.same("29 nothing was there", false, house.save(0));
        house.input(2);
        Check.same("29 the same slot", true, house.save(0));
        Check.same("29 another slot", false, house.save(1));
        house.input(2);
        Check.same("30 loaded", 0, house.load(0));
        Check.same("30 the last one that was saved", "2 1 0", Check.told(house, "xyf"));
        house.input(2);
        Check.same("29 a loaded game", true, house.save(1));
        Check.same("27 what was given since", 1, house.told('f'));
        house.input(2);
        Check.same("30 again", 0, house.load(0));
        Check.same("30 as before", "2 1 0", Check.told(house, "xyf"));
        house.load(1);
        Check.same("30 the other one", "3 1 0", Check.told(house, "xyf"));
        // What is played then does not change what is saved.
        Check.give(house, "222");
        house.load(1);
        Check.same("30 as it was saved", "3 1 0", Check.told(house, "xyf"));
        // Into another level than that which is played.
        house.copy(0);
        Check.same("25 another level", 12, house.play(1));
        Check.same("30 back", 0, house.load(0));
        house.play(1);
        house.save(0);
        Check.same("30 the other level now", 1, house.load(0));
    }

    /** What the beginning allows, a loaded game does not: solid cells, spikes, and guards. */
    private static void savedBeginnings() {
        for (char tile : "#DcG^".toCharArray()) {
            Levelsmith house = drawn("...", "@..", "###");
            house.put(0, 0, 1, tile);
            house.play(0);
            Check.same("29 begun on " + tile, false, house.save(0));
            Check.fails("30 begun on " + tile, UNSUPPORTED, () -> house.load(0));
            Check.same("30 the game goes on " + tile, "0 1 0", Check.told(house, "xyf"));
            house.put(0, 0, 1, '.');
            Check.same("30 then", 0, house.load(0));
        }
        Levelsmith exit = drawn("...", "@..", "###");
        exit.put(0, 0, 1, 'E');
        exit.play(0);
        exit.save(5);
        Check.same("30 begun at the exit", 0, exit.load(5));
        Check.same("26 stays there", 'w', exit.input(1));
        Levelsmith guarded = drawn("...", "@..", "###");
        guarded.guard(0, 0, 1, 1);
        guarded.play(0);
        guarded.save(5);
        Check.fails("30 begun at a guard", UNSUPPORTED, () -> guarded.load(5));
        guarded.input(1);
        guarded.save(4);
        Check.same("30 the guard is elsewhere", 0, guarded.load(4));
        Check.same("26 and comes back in its phase", 'd', guarded.input(1));
    }

    private static void savedOntoGrown() {
        Levelsmith house = drawn(".....", "@....", "#####", ".....");
        house.play(0);
        house.save(0);
        house.grow(0, 9);
        Check.same("30 above the ground", 0, house.load(0));
        Levelsmith low = drawn(".....", ".....", ".....", "@....", "#####");
        low.play(0);
        low.save(0);
        low.grow(0, 9);
        Check.fails("30 in the ground", UNSUPPORTED, () -> low.load(0));
        Levelsmith started = corridor();
        started.play(0);
        started.input(2);
        started.save(0);
        started.start(0, 0, 2);
        Check.same("30 another start", 0, started.load(0));
        Check.same("30 from its own cell", "1 1", Check.told(started, "xy"));
    }

    private static void keptOnce() {
        Levelsmith house = corridor();
        Check.fails("31 no game", UNSUPPORTED, () -> house.keep());
        house.play(0);
        Check.fails("31 no input", UNSUPPORTED, () -> house.keep());
        house.input(2);
        house.save(0);
        Check.fails("31 it goes on", UNSUPPORTED, () -> house.keep());
        Check.give(house, "22");
        Check.same("31 it has ended", 0, house.keep());
        Check.same("31 also again", 1, house.keep());
        house.load(0);
        Check.fails("31 loaded, it goes on", UNSUPPORTED, () -> house.keep());
        Check.give(house, "22");
        Check.fails("31 loaded, it has ended", UNSUPPORTED, () -> house.keep());
        house.play(0);
        Check.give(house, "1222");
        Check.same("31 begun anew", 2, house.keep());
        Check.same("32 their lengths", "3 3 4", house.length(0) + " " + house.length(1) + " " + house.length(2));
        // What has ended stays so until another game begins, whatever is asked in between.
        house.put(0, 0, 0, '#');
        house.replay(0);
        house.isSound();
        house.bot(0, 0, 0, 1, 1);
        Check.fails("30 none in this slot", NONE, () -> house.load(1));
        Check.same("31 it can be kept yet", 3, house.keep());
        Check.same("35 not patched since", false, house.isPatched(3));
        Check.same("35 but the first ones", true, house.isPatched(2));
    }

    private static void tenRuns() {
        Levelsmith house = corridor();
        for (int run = 0; run < 10; run++) {
            Check.same("31 number", run, playAndKeep(house, 0, "1".repeat(run) + "222"));
        }
        Check.fails("31 eleventh", STATE, () -> house.keep());
        house.play(0);
        Check.fails("31 eleventh, and it goes on", UNSUPPORTED, () -> house.keep());
        Check.give(house, "222");
        Check.fails("31 eleventh", STATE, () -> house.keep());
        for (int run = 0; run < 10; run++) {
            Check.same("32 length " + run, run + 3, house.length(run));
            Check.same("33 replay " + run, 'w', house.replay(run));
            Check.same("36 ghost " + run, 2, house.ghost(run, run + 2, 'x'));
        }
    }

    private static void replays() {
        Levelsmith house = corridor();
        playAndKeep(house, 0, "1222");
        String ends = "";
        for (char tile : ".#=~^DcGgSkhsE".toCharArray()) {
            house.put(0, 2, 1, tile);
            ends += house.replay(0);
        }
        Check.same("33 onto each tile", "wpwwdpppwwwwww", ends);
        house.put(0, 2, 1, '.');
        house.put(0, 3, 1, '.');
        Check.same("33 no end", 'p', house.replay(0));
        Check.same("34 no end", false, house.isTrue(0));
        house.put(0, 1, 1, 'E');
        Check.same("33 an end that comes earlier", 'w', house.replay(0));
        Check.same("34 an end that comes earlier", false, house.isTrue(0));
        house.put(0, 1, 1, '.');
        house.start(0, 3, 1);
        house.put(0, 3, 1, '^');
        Check.same("33 an end by the first input", 'd', house.replay(0));
        Check.same("28 no death of a game", 0, house.deaths());
        // A game that goes on, its inputs and its level stay as they are.
        Levelsmith other = corridor();
        playAndKeep(other, 0, "1222");
        other.copy(0);
        other.play(1);
        other.input(5);
        for (int call = 0; call < 3; call++) {
            other.replay(0);
            other.isTrue(0);
            other.ghost(0, 2, 'x');
            other.isSound();
        }
        Check.same("27 the game is as it was", "1 0 1 1", Check.told(other, "xyjf"));
    }

    private static void trueOrNot() {
        // Dead and won with the last input, earlier, and not at all.
        Levelsmith won = corridor();
        playAndKeep(won, 0, "222");
        Levelsmith dead = drawn("....", "@..^", "####");
        playAndKeep(dead, 0, "222");
        Check.same("34 as they did", true, won.isTrue(0) && dead.isTrue(0));
        won.put(0, 3, 1, '^');
        dead.put(0, 3, 1, 'E');
        Check.same("34 the other way", false, won.isTrue(0) || dead.isTrue(0));
        won.put(0, 3, 1, '.');
        dead.put(0, 3, 1, '.');
        Check.same("34 not at all", false, won.isTrue(0) || dead.isTrue(0));
        won.put(0, 3, 1, 'E');
        dead.put(0, 3, 1, '^');
        Check.same("34 as they did again", true, won.isTrue(0) && dead.isTrue(0));
        won.put(0, 2, 1, 'E');
        dead.put(0, 2, 1, '^');
        Check.same("34 earlier", false, won.isTrue(0) || dead.isTrue(0));
        Levelsmith one = drawn("...", "@E.", "###");
        playAndKeep(one, 0, "2");
        Check.same("34 one input", true, one.isTrue(0));
        one.start(0, 1, 1);
        Check.same("34 it leaves the exit", false, one.isTrue(0));
    }

    private interface Change {
        Object on(Levelsmith house);
    }

    private static void patches(String what, boolean due, Change change) {
        Levelsmith house = drawn("####", "@.^E", "####");
        house.guard(0, 0, 1, 0);
        playAndKeep(house, 0, "22");
        Check.same("35 " + what + ", ahead", false, house.isPatched(0));
        Check.same("34 " + what + ", ahead", true, house.isTrue(0));
        change.on(house);
        Check.same("35 " + what, due, house.isPatched(0));
    }

    private static void patchedByAll() {
        patches("put as before", true, house -> house.put(0, 3, 2, '#'));
        patches("put", true, house -> house.put(0, 0, 0, '='));
        patches("filled as before", true, house -> house.fill(0, 0, 0, 4, 1, '#'));
        patches("filled", true, house -> house.fill(0, 0, 0, 1, 1, '='));
        patches("started as before", true, house -> house.start(0, 0, 1));
        patches("started", true, house -> house.start(0, 1, 1));
        patches("guarded", true, house -> house.guard(0, 3, 0, 2));
        patches("grown", true, house -> house.grow(0, 1));
        patches("mended", true, house -> house.mend(0));
        patches("put, and put back", true, house -> "" + house.put(0, 2, 1, '.') + house.put(0, 2, 1, '^'));
    }

    /** What comes behind a change does not undo it; a level that was grown is not mended, as it may be won. */
    private static void patchedByTwo() {
        String[] names = {"put", "filled", "started", "guarded", "mended", "grown"};
        Change[] changes = {
            house -> house.put(0, 3, 2, '#'), house -> house.fill(0, 0, 0, 4, 1, '#'), house -> house.start(0, 0, 1),
            house -> house.guard(0, 3, 0, 2), house -> house.mend(0), house -> house.grow(0, 1)};
        for (int first = 0; first < changes.length; first++) {
            for (int second = 0; second < changes.length; second++) {
                Change before = changes[first];
                Change behind = changes[second];
                if (first < 4 || second != 4) {
                    patches(names[first] + ", then " + names[second], true, house -> "" + before.on(house) + behind.on(house));
                }
            }
        }
    }

    private static void notPatched() {
        patches("read", false, house -> house.tile(0, 0, 0) + house.guardAt(0, 0, 5) + house.checksum(0) + house.states(0));
        patches("copied", false, house -> house.copy(0));
        patches("the copy put", false, house -> house.copy(0) + house.put(1, 0, 0, '.') + house.grow(1, 1));
        patches("asked for mending", false, house -> house.mendAt(0, 'x'));
        patches("asked for help", false, house -> house.isWinnableWith(0, 's'));
        patches("played", false, house -> house.play(0) + house.input(2) + house.told('x'));
        patches("kept again", false, house -> house.keep());
        Levelsmith won = corridor();
        playAndKeep(won, 0, "222");
        Check.same("21 it can be won", 0, won.mend(0));
        Check.same("35 nothing was mended", false, won.isPatched(0));
        won.bot(0, 9, 100, 1, 30);
        won.publish(0, 1, 0);
        won.isNeeded(0, 'E');
        Check.same("35 not by bots or makers", false, won.isPatched(0));
        won.put(0, 0, 0, '#');
        playAndKeep(won, 0, "222");
        Check.same("35 the one before, not the one behind", "true false", won.isPatched(0) + " " + won.isPatched(1));
    }

    private static void ghosts() {
        Levelsmith house = drawn("....", "@..E", "####");
        playAndKeep(house, 0, "522");
        Check.same("32 it wins by the third input", 3, house.length(0));
        String way = "";
        for (int frame = 0; frame < 3; frame++) {
            way += house.ghost(0, frame, 'x') + "" + house.ghost(0, frame, 'y') + " ";
        }
        Check.same("36 its way", "01 10 21 ", way);
        Check.fails("36 it has won then", NONE, () -> house.ghost(0, 3, 'x'));
        house.put(0, 1, 0, 'E');
        Check.same("36 at the start", 0, house.ghost(0, 0, 'x'));
        for (int frame = 1; frame <= 3; frame++) {
            int behind = frame;
            Check.fails("36 it has won by the first input", NONE, () -> house.ghost(0, behind, 'x'));
        }
        Check.fails("36 beyond its length", IllegalArgumentException.class, () -> house.ghost(0, 4, 'x'));
    }

    /**
     * The start is ahead of keys, and the exit above it behind a door: one goes to the keys and back. A bot that is late
     * goes on to the right for as many frames as it is late, and dies if spikes stand there.
     */
    private static void botsLate() {
        for (int spikes = 2; spikes <= 11; spikes++) {
            Levelsmith house = drawn("E###########", "D###########", "@k..........", "############");
            house.put(0, spikes, 2, '^');
            for (int late = 0; late <= 9; late++) {
                boolean dies = late + 1 >= spikes;
                String what = "late " + late + ", spikes in " + spikes;
                Check.same("37 " + what, dies ? 0 : 2, house.bot(0, late, 0, 7, 2));
                Check.same("38 " + what, dies ? 2 : 0, house.fell(spikes - 1, 2));
                if (dies) {
                    Check.same("39 " + what, spikes - 1 + " 2", house.hardest('x') + " " + house.hardest('y'));
                } else {
                    Check.fails("39 " + what, NONE, () -> house.hardest('x'));
                }
            }
        }
    }

    private static void botsOneFrameLate() {
        // The bot in time turns at the keys; late by one it goes one cell farther, where a guard stands in one phase only.
        Levelsmith house = drawn("E#####", "D#####", "@k....", "######");
        house.guard(0, 2, 1, 2);
        Check.same("37 in time", 1, house.bot(0, 0, 0, 1, 1));
        Check.same("37 late by one, into the guard", 0, house.bot(0, 1, 0, 1, 1));
        Check.same("38 coming from the keys", 1, house.fell(1, 2));
    }

    private static int firstDraw(int seed) {
        return ((seed * 1103515245 + 12345) >>> 16) % 100;
    }

    private static int secondDraw(int seed) {
        int z = seed * 1103515245 + 12345;
        return ((z * 1103515245 + 12345) >>> 16) % 6;
    }

    /** Left is the exit, right are spikes; a draw that is the number of errors is none. */
    private static void botErrors() {
        Levelsmith house = drawn("####", "E@^#", "####");
        boolean[] came = new boolean[100];
        int calls = 0;
        for (int seed = 0; seed < 4000 && calls < 300; seed++) {
            int draw = firstDraw(seed);
            boolean wouldDie = secondDraw(seed) % 3 == 2;
            if (wouldDie && !came[draw]) {
                came[draw] = true;
                calls += 2;
                Check.same("37 no error at " + draw, 1, house.bot(0, 0, draw, seed, 1));
                Check.same("37 an error above " + draw, 0, house.bot(0, 0, draw + 1, seed, 1));
            }
        }
        Check.same("37 each draw came", 200, calls);
    }

    /** How many frames steps by the second draws take from the column 0 to the last one; the most if they do not. */
    private static int framesByDraws(int seed, int last, int most) {
        int z = seed;
        int x = 0;
        int frames = 0;
        while (x < last && frames < most) {
            z = z * 1103515245 + 12345;
            z = z * 1103515245 + 12345;
            x = Math.max(0, x + (z >>> 16) % 6 % 3 - 1);
            frames++;
        }
        return frames;
    }

    /** A game that would be won by the 200th frame is, one that would be by the 201st one is not. */
    private static void botFrames() {
        Levelsmith house = new Levelsmith();
        house.level(12, 3, '#');
        house.fill(0, 0, 1, 12, 1, '.');
        house.put(0, 11, 1, 'E');
        house.start(0, 0, 1);
        int[] came = new int[4];
        for (int seed = 0; seed < 60000; seed++) {
            int frames = framesByDraws(seed, 11, 210);
            int which = frames - 199;
            if (which >= 0 && which < came.length && came[which] < 20) {
                came[which]++;
                Check.same("37 won by the frame " + frames, frames <= 200 ? 1 : 0, house.bot(0, 0, 100, seed, 1));
            }
        }
        for (int which = 0; which < came.length; which++) {
            Check.same("37 games of " + (199 + which), 20, came[which]);
        }
    }

    /** Who does not come back with keys to the door above the start dies on the spikes, but not by the 201st frame. */
    private static void botFramesToDeath() {
        Levelsmith house = drawn("E###########", "D###########", "@.........k^", "############");
        int[] came = new int[4];
        for (int seed = 0; seed < 60000; seed++) {
            int frames = framesByDraws(seed, 11, 210);
            int which = frames - 199;
            if (which >= 0 && which < came.length && came[which] < 20 && !comesBack(seed, frames)) {
                came[which]++;
                Check.same("37 it does not win", 0, house.bot(0, 0, 100, seed, 1));
                Check.same("38 dead by the frame " + frames, frames <= 200 ? 1 : 0, house.fell(10, 2));
            }
        }
        for (int which = 0; which < came.length; which++) {
            Check.same("38 games of " + (199 + which), 20, came[which]);
        }
    }

    private static boolean comesBack(int seed, int frames) {
        int z = seed;
        int x = 0;
        boolean keys = false;
        for (int frame = 0; frame < frames; frame++) {
            z = z * 1103515245 + 12345;
            z = z * 1103515245 + 12345;
            x = Math.max(0, x + (z >>> 16) % 6 % 3 - 1);
            keys = keys || x == 10;
            if (keys && x == 0) {
                return true;
            }
        }
        return false;
    }

    private static void botsAnew() {
        Levelsmith house = drawn("....", "@.^E", "####");
        for (int tries = 1; tries <= 30; tries++) {
            Check.same("37 all die", 0, house.bot(0, 1, 0, 1, tries));
            Check.same("38 from 0 on", tries, house.fell(1, 1));
        }
        house.copy(0);
        house.put(1, 2, 1, '.');
        Check.same("37 none dies on the copy", 3, house.bot(1, 9, 0, 1, 3));
        Check.same("38 from 0 on", 0, house.fell(1, 1));
        Check.fails("39 it never died", NONE, () -> house.hardest('x'));
        house.bot(0, 1, 0, 1, 2);
        house.put(1, 3, 1, '.');
        Check.fails("37 it cannot be won", NONE, () -> house.bot(1, 0, 0, 1, 1));
        Check.fails("37 no such number", IllegalArgumentException.class, () -> house.bot(0, 0, 0, 1, 0));
        Check.same("38 the last bot's yet", 2, house.fell(1, 1));
        Check.same("28 nobody died in games", 0, house.deaths());
    }

    /** Behind each game the next one begins at the start, in the phase 0, with nothing found and the switch off. */
    private static void botsFromTheBeginning() {
        Levelsmith house = drawn("######", "@kDS.E", "######");
        house.put(0, 4, 1, 'G');
        Check.same("37 each game alike", 30, house.bot(0, 0, 0, 1, 30));
        house.guard(0, 5, 0, 0);
        Check.same("37 each game alike, late", 30, house.bot(0, 9, 0, 1, 30));
        house.play(0);
        house.input(2);
        house.bot(0, 0, 0, 1, 1);
        Check.same("27 the game is as it was", "1 1 1 0 0 1", Check.told(house, "xyasjf"));
    }

    private static void shownFrames() {
        Levelsmith house = corridor();
        int late = playAndKeep(house, 0, "11222");
        int soon = playAndKeep(house, 0, "222");
        Check.same("40 first", 1, house.publish(0, 0, late));
        Check.same("41 its frames", 5, house.makerAt(0));
        Check.same("40 shorter", 1, house.publish(0, 0, soon));
        Check.same("41 the shortest", 3, house.makerAt(0));
        Check.same("40 as short", 1, house.publish(0, 0, soon));
        Check.same("40 longer", 1, house.publish(0, 0, late));
        Check.same("41 the shortest yet", 3, house.makerAt(0));
        // Up to winning: what is given behind that does not count.
        house.put(0, 1, 1, 'E');
        Check.same("40 another level", 2, house.publish(0, 0, late));
        Check.same("41 three frames and three", "3 3", house.makerAt(0) + " " + house.makerAt(1));
        Check.same("40 the same again", 2, house.publish(0, 0, soon));
        Check.same("41 one frame", "1 3", house.makerAt(0) + " " + house.makerAt(1));
    }

    private static void shownSame() {
        Levelsmith house = corridor();
        int run = playAndKeep(house, 0, "222");
        house.publish(0, 1, run);
        for (int maker = 0; maker < 10; maker++) {
            int other = maker;
            Check.same("42 stolen by " + maker, maker != 1, house.isStolen(0, maker));
            if (maker != 1) {
                Check.fails("40 by " + maker, UNSUPPORTED, () -> house.publish(0, other, run));
            }
        }
        house.put(0, 0, 0, '#');
        Check.same("42 changed", false, house.isStolen(0, 2));
        Check.same("40 changed", 2, house.publish(0, 2, run));
        Check.same("42 changed, by its maker", false, house.isStolen(0, 2));
        Check.same("42 changed, by the other one", true, house.isStolen(0, 1));
        house.put(0, 0, 0, '.');
        Check.same("42 back", true, house.isStolen(0, 2));
        Check.same("42 back", false, house.isStolen(0, 1));
        // A level that cannot be won any more is told by what it is alone.
        house.put(0, 3, 1, '.');
        Check.same("42 without an exit", false, house.isStolen(0, 2));
        Check.fails("40 without an exit", UNSUPPORTED, () -> house.publish(0, 2, run));
    }

    private static void shownRanks() {
        Levelsmith house = drawn("############", "@..........E", "############");
        int far = playAndKeep(house, 0, "1".repeat(139) + "2".repeat(11));
        int near = playAndKeep(house, 0, "2".repeat(11));
        int shown = 0;
        for (int x = 0; x < 12; x++) {
            for (int n = 0; n < 8; n++) {
                house.put(0, x, 0, "=~^DcGgS".charAt(n));
                shown++;
                Check.same("40 how many", shown, house.publish(0, shown % 10, shown % 2 == 0 ? near : far));
            }
        }
        Check.fails("41 none behind the last one", INDEX, () -> house.makerAt(96));
        for (int rank = 0; rank < 96; rank++) {
            int number = rank < 48 ? 2 * (rank + 1) : 2 * (rank - 48) + 1;
            Check.same("41 rank " + rank, number % 10 * 1000 + (rank < 48 ? 11 : 150), house.makerAt(rank));
        }
    }

    private static void shownAsItWas() {
        Levelsmith house = corridor();
        int run = playAndKeep(house, 0, "222");
        house.guard(0, 3, 0, 0);
        house.publish(0, 4, run);
        house.copy(0);
        house.grow(0, 1);
        house.play(0);
        Check.same("41 as it was", 4003, house.makerAt(0));
        Check.same("42 a copy of what it was", true, house.isStolen(1, 5));
        Check.same("42 no more what it was", false, house.isStolen(0, 5));
        Check.fails("40 the run is on the first level only", UNSUPPORTED, () -> house.publish(1, 4, run));
    }
}
