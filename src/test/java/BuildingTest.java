import java.util.NoSuchElementException;

/** Promises 1 to 10: a new object, and building. */
public final class BuildingTest {
    private static final Class<?> INDEX = IndexOutOfBoundsException.class;
    private static final Class<?> ARGUMENT = IllegalArgumentException.class;
    private static final Class<?> STATE = IllegalStateException.class;

    public static void main(String[] args) {
        newObject();
        level();
        put();
        fill();
        tile();
        start();
        guard();
        guardAt();
        copy();
        grow();
        growOtherSizes();
        Check.end("BuildingTest");
    }

    private static void newObject() {
        Levelsmith house = new Levelsmith();
        Check.same("1 levels", 0, house.levels());
        Check.same("1 deaths", 0, house.deaths());
        Check.same("1 isSound", true, house.isSound());
        Check.same("1 fell", 0, house.fell(11, 7));
        Check.fails("1 tile", INDEX, () -> house.tile(0, 0, 0));
        Check.fails("1 told", STATE, () -> house.told('x'));
        Check.fails("1 input", STATE, () -> house.input(1));
        Check.fails("1 save", STATE, () -> house.save(0));
        Check.fails("1 load", NoSuchElementException.class, () -> house.load(0));
        Check.fails("1 keep", UnsupportedOperationException.class, () -> house.keep());
        Check.fails("1 length", INDEX, () -> house.length(0));
        Check.fails("1 hardest", NoSuchElementException.class, () -> house.hardest('x'));
        Check.fails("1 makerAt", INDEX, () -> house.makerAt(0));
    }

    private static void level() {
        Levelsmith house = new Levelsmith();
        int[][] wrong = {{2, 3}, {13, 3}, {3, 2}, {3, 9}, {-1, 3}, {3, Integer.MIN_VALUE}, {Integer.MAX_VALUE, 8}};
        for (int[] size : wrong) {
            Check.fails("2 level " + size[0] + " " + size[1], ARGUMENT, () -> house.level(size[0], size[1], '.'));
        }
        for (char sign : "xeK 0@\u0000\u012e\uffff".toCharArray()) {
            Check.fails("2 level of " + (int) sign, ARGUMENT, () -> house.level(3, 3, sign));
        }
        Check.same("2 none was added", 0, house.levels());
        Check.same("2 smallest", 0, house.level(3, 3, '.'));
        Check.same("2 largest", 1, house.level(12, 8, '#'));
        Check.same("2 its last tile", '#', house.tile(1, 11, 7));
        Check.same("2 start of the largest", 84, house.play(1));
        Check.same("2 start of the smallest", 24, house.play(0));
        Check.same("2 third", 2, house.level(3, 8, 'E'));
        Check.same("2 fourth", 3, house.level(12, 3, 's'));
        Check.same("2 fifth", 4, house.level(4, 5, '='));
        Check.fails("2 sixth", STATE, () -> house.level(4, 5, '='));
        Check.fails("2 sixth of a wrong size", ARGUMENT, () -> house.level(4, 2, '='));
        Check.fails("2 sixth of no tile", ARGUMENT, () -> house.level(4, 5, '?'));
        Levelsmith other = new Levelsmith();
        String signs = ".#=~^DcGgSkhsE";
        for (int i = 0; i < signs.length(); i++) {
            char sign = signs.charAt(i);
            if (i % 5 == 0) {
                other = new Levelsmith();
            }
            Check.same("2 level of " + sign, i % 5, other.level(3, 4, sign));
            Check.same("2 tile of " + sign, sign, other.tile(i % 5, 2, 3));
        }
    }

    private static void put() {
        Levelsmith house = new Levelsmith();
        house.level(4, 3, '.');
        Check.same("3 put", '.', house.put(0, 3, 2, 'S'));
        Check.same("3 put again", 'S', house.put(0, 3, 2, 'S'));
        Check.same("3 put another", 'S', house.put(0, 3, 2, 'E'));
        Check.same("3 the tile", 'E', house.tile(0, 3, 2));
        Check.same("3 the one beside", '.', house.tile(0, 2, 2));
        Check.same("3 the one above", '.', house.tile(0, 3, 1));
        Check.fails("3 no level", INDEX, () -> house.put(1, 0, 0, '.'));
        Check.fails("3 no level below 0", INDEX, () -> house.put(-1, 0, 0, '.'));
        Check.fails("3 no column", INDEX, () -> house.put(0, 4, 0, '.'));
        Check.fails("3 no row", INDEX, () -> house.put(0, 0, 3, '.'));
        Check.fails("3 column below 0", INDEX, () -> house.put(0, -1, 0, '.'));
        Check.fails("3 row below 0", INDEX, () -> house.put(0, 0, -1, '?'));
        Check.fails("3 no tile", ARGUMENT, () -> house.put(0, 3, 2, '?'));
        Check.same("3 nothing was changed", 'E', house.tile(0, 3, 2));
    }

    private static void fill() {
        Levelsmith house = new Levelsmith();
        house.level(5, 4, '.');
        Check.same("4 one cell", 1, house.fill(0, 4, 3, 1, 1, '#'));
        Check.same("4 all cells", 19, house.fill(0, 0, 0, 5, 4, '#'));
        Check.same("4 none is another", 0, house.fill(0, 0, 0, 5, 4, '#'));
        Check.same("4 a part", 4, house.fill(0, 1, 1, 2, 2, '~'));
        Check.same("4 row 0", "#####", Check.row(house, 0, 0, 5));
        Check.same("4 row 1", "#~~##", Check.row(house, 0, 1, 5));
        Check.same("4 row 2", "#~~##", Check.row(house, 0, 2, 5));
        Check.same("4 row 3", "#####", Check.row(house, 0, 3, 5));
        Check.fails("4 no level", INDEX, () -> house.fill(1, 0, 0, 1, 1, '.'));
        Check.fails("4 no cell", INDEX, () -> house.fill(0, 5, 0, 0, 1, '?'));
        Check.fails("4 no cell", INDEX, () -> house.fill(0, 0, -1, 1, 1, '.'));
        Check.fails("4 too wide", ARGUMENT, () -> house.fill(0, 1, 0, 5, 1, '.'));
        Check.fails("4 too high", ARGUMENT, () -> house.fill(0, 0, 1, 1, 4, '.'));
        Check.fails("4 far too wide", ARGUMENT, () -> house.fill(0, 1, 0, Integer.MAX_VALUE, 1, '.'));
        Check.fails("4 far too high", ARGUMENT, () -> house.fill(0, 0, 1, 1, Integer.MAX_VALUE, '.'));
        Check.fails("4 no columns", ARGUMENT, () -> house.fill(0, 0, 0, 0, 1, '.'));
        Check.fails("4 rows below 0", ARGUMENT, () -> house.fill(0, 0, 0, 1, -1, '.'));
        Check.fails("4 no tile", ARGUMENT, () -> house.fill(0, 0, 0, 1, 1, 'x'));
        Check.same("4 nothing was changed", "#####", Check.row(house, 0, 0, 5));
    }

    private static void tile() {
        Levelsmith house = new Levelsmith();
        house.level(3, 4, 'k');
        house.put(0, 2, 3, 'h');
        Check.same("5 a tile", 'k', house.tile(0, 0, 0));
        Check.same("5 the last tile", 'h', house.tile(0, 2, 3));
        Check.fails("5 no level", INDEX, () -> house.tile(1, 0, 0));
        Check.fails("5 no column", INDEX, () -> house.tile(0, 3, 0));
        Check.fails("5 no row", INDEX, () -> house.tile(0, 0, 4));
        Check.fails("5 below 0", INDEX, () -> house.tile(0, Integer.MIN_VALUE, 0));
    }

    private static void start() {
        Levelsmith house = new Levelsmith();
        house.level(12, 6, '.');
        Check.same("6 at first", 60, house.start(0, 11, 2));
        Check.same("6 then", 35, house.start(0, 1, 0));
        Check.fails("6 no level", INDEX, () -> house.start(1, 0, 0));
        Check.fails("6 no cell", INDEX, () -> house.start(0, 12, 0));
        Check.fails("6 no cell", INDEX, () -> house.start(0, 0, 6));
        Check.fails("6 no cell", INDEX, () -> house.start(0, 0, -1));
        Check.same("6 last", 1, house.start(0, 0, 5));
    }

    private static void guard() {
        Levelsmith house = new Levelsmith();
        house.level(7, 3, '.');
        Check.fails("7 no level", INDEX, () -> house.guard(1, 0, 0, 0));
        Check.fails("7 no column", INDEX, () -> house.guard(0, 7, 4, 0));
        Check.fails("7 no row", INDEX, () -> house.guard(0, 0, 0, 3));
        for (int far : new int[] {-1, 4, 5, 7, 12, Integer.MAX_VALUE, Integer.MIN_VALUE}) {
            Check.fails("7 far " + far, ARGUMENT, () -> house.guard(0, 0, far, 0));
        }
        Check.fails("7 beyond", ARGUMENT, () -> house.guard(0, 1, 6, 0));
        Check.fails("7 beyond", ARGUMENT, () -> house.guard(0, 6, 1, 0));
        Check.same("7 first", 1, house.guard(0, 0, 6, 0));
        Check.same("7 second", 2, house.guard(0, 6, 0, 2));
        Check.same("7 third", 3, house.guard(0, 6, 0, 2));
        Check.fails("7 fourth", STATE, () -> house.guard(0, 0, 0, 0));
        Check.fails("7 fourth of a wrong way", ARGUMENT, () -> house.guard(0, 0, 4, 0));
        Check.fails("7 fourth in no cell", INDEX, () -> house.guard(0, -1, 4, 0));
    }

    private static void guardAt() {
        Levelsmith house = new Levelsmith();
        house.level(12, 3, '.');
        house.level(12, 3, '.');
        house.guard(0, 2, 6, 0);
        house.guard(0, 5, 2, 1);
        house.guard(0, 11, 0, 2);
        house.guard(1, 4, 3, 2);
        house.guard(1, 7, 1, 2);
        int[] six = {2, 3, 4, 5, 6, 7, 8, 7, 6, 5, 4, 3};
        int[] three = {4, 5, 6, 7, 6, 5};
        int[] two = {5, 6, 7, 6};
        for (int frame = 0; frame < 30; frame++) {
            Check.same("8 far 6 in " + frame, six[frame % 12], house.guardAt(0, 0, frame));
            Check.same("8 far 3 in " + frame, three[frame % 6], house.guardAt(1, 0, frame));
            Check.same("8 far 2 in " + frame, two[frame % 4], house.guardAt(0, 1, frame));
            Check.same("8 far 1 in " + frame, 7 + frame % 2, house.guardAt(1, 1, frame));
            Check.same("8 far 0 in " + frame, 11, house.guardAt(0, 2, frame));
        }
        Check.same("8 the last frame", 5, house.guardAt(0, 0, 9999));
        Check.fails("8 no level", INDEX, () -> house.guardAt(2, 0, 0));
        Check.fails("8 no guard", INDEX, () -> house.guardAt(1, 2, -1));
        Check.fails("8 no guard", INDEX, () -> house.guardAt(0, 3, 0));
        Check.fails("8 guard below 0", INDEX, () -> house.guardAt(0, -1, 0));
        Check.fails("8 frame below 0", ARGUMENT, () -> house.guardAt(0, 0, -1));
        Check.fails("8 frame above 9999", ARGUMENT, () -> house.guardAt(0, 0, 10000));
    }

    private static void copy() {
        Levelsmith house = new Levelsmith();
        Check.fails("9 no level", INDEX, () -> house.copy(0));
        house.level(6, 4, '#');
        house.put(0, 5, 3, 'E');
        house.start(0, 3, 1);
        house.guard(0, 1, 3, 2);
        Check.same("9 its number", 1, house.copy(0));
        Check.same("9 the same sum", house.checksum(0), house.checksum(1));
        Check.same("9 its guard", 4, house.guardAt(1, 0, 3));
        house.put(1, 0, 0, 'k');
        house.guard(1, 0, 0, 0);
        Check.same("9 its start", 15, house.start(1, 0, 0));
        Check.same("9 the other one stays", '#', house.tile(0, 0, 0));
        Check.same("9 its start stays", 15, house.play(0));
        Check.fails("9 its guards stay", INDEX, () -> house.guardAt(0, 1, 0));
        Check.fails("9 no wider", INDEX, () -> house.tile(1, 6, 0));
        Check.fails("9 no higher", INDEX, () -> house.tile(1, 0, 4));
        Check.same("9 third", 2, house.copy(1));
        Check.same("9 fourth", 3, house.copy(2));
        Check.same("9 fifth", 4, house.copy(3));
        Check.fails("9 sixth", STATE, () -> house.copy(0));
        Check.fails("9 sixth of none", INDEX, () -> house.copy(5));
    }

    private static void isGrown(Levelsmith house, int level, String... rows) {
        for (int y = 0; y < rows.length; y++) {
            Check.same("10 row " + y, rows[y], Check.row(house, level, y, rows[y].length()));
        }
    }

    private static void grow() {
        Levelsmith house = new Levelsmith();
        Check.fails("10 no level", INDEX, () -> house.grow(0, 1));
        house.level(12, 8, '.');
        house.guard(0, 0, 6, 0);
        // 13 walls, a key, two doors and the exit, by the draws of the document.
        Check.same("10 from air", 17, house.grow(0, 5));
        isGrown(house, 0, "............", "............", "............", "............", "............",
                "..k.........", "###...DD...E", "#########..#");
        Check.fails("10 guards go", INDEX, () -> house.guardAt(0, 0, 0));
        Check.same("10 the start", 60, house.start(0, 4, 4));
        Check.same("10 the same again", 0, house.grow(0, 5));
        Check.same("10 the start again", 60, house.start(0, 4, 4));
        Check.same("10 a seed below 0", 9, house.grow(0, -1));
        isGrown(house, 0, "............", "............", "............", "............", "............",
                "........#...", "###^kD.##..E", "######.##..#");
        house.grow(0, 23);
        isGrown(house, 0, "............", "..........DE", ".........D##", "...~...#.###", "..k#^###.###",
                "..######.###", "########.###", "########.###");
    }

    private static void growOtherSizes() {
        Levelsmith house = new Levelsmith();
        house.level(3, 3, '#');
        Check.same("10 smallest", 3, house.grow(0, 9));
        isGrown(house, 0, "..E", "###", "###");
        Check.same("10 start of the smallest", 0, house.play(0));
        house.level(12, 3, '.');
        house.grow(1, 77);
        isGrown(house, 1, "............", "##......k..E", "#####.#.##.#");
        Check.same("10 a door without keys is air", false, hasDoorWithoutKeys());
    }

    private static boolean hasDoorWithoutKeys() {
        Levelsmith house = new Levelsmith();
        house.level(12, 8, '.');
        for (int seed = 0; seed < 200; seed++) {
            house.grow(0, seed);
            boolean keys = false;
            for (int x = 0; x < 12; x++) {
                for (int y = 0; y < 8; y++) {
                    keys = keys || house.tile(0, x, y) == 'k';
                    if (house.tile(0, x, y) == 'D' && !keys) {
                        return true;
                    }
                }
            }
        }
        return false;
    }
}
