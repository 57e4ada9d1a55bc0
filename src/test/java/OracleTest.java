import java.lang.reflect.InvocationTargetException;
import java.lang.reflect.Method;
import java.lang.reflect.Modifier;
import java.util.ArrayList;
import java.util.Arrays;
import java.util.Comparator;
import java.util.List;
import java.util.Map;
import java.util.Random;
import java.util.TreeMap;

/** Gives the same drawn calls to Levelsmith and to the Oracle, and compares what they answer or throw. */
public final class OracleTest {
    private static final String TILES = ".#=~^DcGgSkhsE";
    private static final int MOST_CALLS = 500;

    private final Random random;
    private final Levelsmith house = new Levelsmith();
    private final Oracle oracle = new Oracle();
    private final List<String> told = new ArrayList<>();
    private final List<int[]> sizes = new ArrayList<>();
    private final boolean isLarge;
    private String wrong = "";
    private static final Map<String, Integer> SEEN = new TreeMap<>();
    private static final List<Method> FACE = face();

    private OracleTest(long seed) {
        random = new Random(seed);
        isLarge = seed % 7 == 0;
    }

    public static void main(String[] args) {
        int runs = args.length > 0 ? Integer.parseInt(args[0]) : 1500;
        long first = args.length > 1 ? Long.parseLong(args[1]) : 1;
        for (long seed = first; seed < first + runs; seed++) {
            OracleTest test = new OracleTest(seed);
            test.run();
            Check.same("run " + seed, "", test.wrong);
            if (!test.wrong.isEmpty()) {
                for (String call : test.told) {
                    System.out.println("    " + call);
                }
                break;
            }
        }
        checkEachAnswerCame();
        dearest();
        Check.end("OracleTest");
    }

    /** Without each answer and each exception of each method, the draws would prove less than they seem to. */
    private static void checkEachAnswerCame() {
        for (Method method : FACE) {
            Check.same("answers of " + method.getName(), true, SEEN.getOrDefault(method.getName() + " answers", 0) > 20);
            for (Class<?> thrown : method.getExceptionTypes()) {
                String name = method.getName() + " " + thrown.getSimpleName();
                Check.same(name + " came", true, SEEN.getOrDefault(name, 0) > 0);
            }
        }
        if (System.getenv("TELL") != null) {
            SEEN.forEach((name, times) -> System.out.println(name + " " + times));
        }
    }

    /** The largest level with all things to find, so that nearly as many states are found as there can be. */
    private static void dearest() {
        OracleTest test = new OracleTest(1);
        test.call("level", 12, 8, '.');
        test.call("fill", 0, 0, 7, 12, 1, '=');
        test.call("fill", 0, 0, 4, 12, 1, '=');
        test.call("fill", 0, 0, 2, 12, 1, '=');
        for (int i = 0; i < 4; i++) {
            test.call("put", 0, 2 + 2 * i, 6, "khsS".charAt(i));
        }
        test.call("put", 0, 11, 0, 'E');
        test.call("start", 0, 0, 6);
        test.call("guard", 0, 1, 6, 3);
        for (String name : new String[] {"states", "frames", "softLocks", "ways", "meanLeft", "rests", "longestAir"}) {
            test.call(name, 0);
        }
        test.call("bot", 0, 3, 30, 77, 30);
        test.call("hardest", 'x');
        test.call("isWinnableWith", 0, 't');
        test.call("put", 0, 11, 0, '.');
        test.call("states", 0);
        test.call("softLocks", 0);
        test.call("isWinnableWith", 0, 't');
        test.call("isSound");
        Check.same("dearest level", "", test.wrong);
    }

    private static List<Method> face() {
        List<Method> face = new ArrayList<>();
        for (Method method : Levelsmith.class.getDeclaredMethods()) {
            if (Modifier.isPublic(method.getModifiers())) {
                face.add(method);
            }
        }
        face.sort(Comparator.comparing(Method::getName));
        return face;
    }

    private static Method named(String name) {
        for (Method method : FACE) {
            if (method.getName().equals(name)) {
                return method;
            }
        }
        throw new AssertionError("no method " + name);
    }

    private static Object answer(Object object, Method method, Object[] args) {
        try {
            return object.getClass().getMethod(method.getName(), method.getParameterTypes()).invoke(object, args);
        } catch (InvocationTargetException e) {
            boolean isOfMachine = object instanceof Levelsmith && Check.nameOf(e.getCause()).endsWith("machine throws");
            return isOfMachine ? Check.nameOf(e.getCause()) : e.getCause().getClass();
        } catch (ReflectiveOperationException e) {
            throw new AssertionError(e);
        }
    }

    private Object call(String name, Object... args) {
        Method method = named(name);
        Object due = answer(oracle, method, args);
        Object got = answer(house, method, args);
        String call = name + Arrays.toString(args) + " answers " + got;
        told.add(call);
        boolean isThrown = due instanceof Class;
        SEEN.merge(name + " " + (isThrown ? ((Class<?>) due).getSimpleName() : "answers"), 1, Integer::sum);
        if (!due.equals(got) && wrong.isEmpty()) {
            wrong = call + ", due is " + due;
        }
        return due;
    }

    private boolean mayCall() {
        return wrong.isEmpty() && told.size() < MOST_CALLS;
    }

    private void run() {
        int most = 60 + random.nextInt(isLarge ? 100 : 380);
        addLevel();
        while (mayCall() && told.size() < most) {
            switch (random.nextInt(18)) {
                case 0 -> addLevel();
                case 1, 2 -> furnish(random.nextInt(sizes.size()));
                case 3, 4 -> playWell(random.nextInt(sizes.size()));
                case 5 -> playBadly(random.nextInt(sizes.size()));
                case 6 -> growOne(random.nextInt(sizes.size()));
                case 7 -> askAll(random.nextInt(sizes.size()));
                case 8 -> askCells(random.nextInt(sizes.size()));
                case 9 -> loadOntoChanged(random.nextInt(sizes.size()));
                default -> drawCall();
            }
        }
    }

    private void addLevel() {
        int wide = isLarge ? 8 + random.nextInt(5) : 3 + random.nextInt(5);
        int high = isLarge ? 5 + random.nextInt(4) : 3 + random.nextInt(3);
        boolean isCopy = !sizes.isEmpty() && random.nextInt(3) == 0;
        int from = isCopy ? random.nextInt(sizes.size()) : 0;
        Object number = isCopy ? call("copy", from) : call("level", wide, high, random.nextInt(5) == 0 ? drawTile() : '.');
        if (number instanceof Integer) {
            sizes.add(isCopy ? sizes.get(from) : new int[] {wide, high});
            furnish((Integer) number);
        }
    }

    /** Makes a level in which something can be reached, mostly. */
    private void furnish(int level) {
        int wide = sizes.get(level)[0];
        int high = sizes.get(level)[1];
        if (random.nextInt(3) == 0) {
            call("fill", level, 0, 0, wide, high, '.');
        }
        if (random.nextInt(3) > 0) {
            call("fill", level, 0, high - 1, wide, 1, "#=~#".charAt(random.nextInt(4)));
        }
        int things = random.nextInt(wide * high / 3 + 1);
        for (int i = 0; i < things && mayCall(); i++) {
            call("put", level, random.nextInt(wide), random.nextInt(high), drawTile());
        }
        if (random.nextInt(4) > 0) {
            call("start", level, random.nextInt(3), random.nextInt(high - 1));
            call("put", level, wide - 1 - random.nextInt(3), random.nextInt(high - 1), 'E');
        }
        if (random.nextInt(3) == 0) {
            int x = random.nextInt(wide);
            int[] ways = {0, 1, 2, 3, 6};
            call("guard", level, x, ways[random.nextInt(5)], random.nextInt(high));
        }
    }

    private char drawTile() {
        return random.nextInt(3) == 0 ? "#=.".charAt(random.nextInt(3)) : TILES.charAt(random.nextInt(TILES.length()));
    }

    private void growOne(int level) {
        call("grow", level, random.nextInt(4) == 0 ? random.nextInt() : random.nextInt(50));
    }

    /** Plays the shortest run, at times with a slip or a change in between, and does something with it. */
    private void playWell(int level) {
        if (!mayCall() || !Boolean.TRUE.equals(call("isWinnable", level))) {
            return;
        }
        int frames = (Integer) call("frames", level);
        int late = random.nextInt(4) == 0 ? 1 + random.nextInt(3) : 0;
        int changed = random.nextInt(6) == 0 ? random.nextInt(frames) : -1;
        call("play", level);
        for (int i = 0; i < late && mayCall(); i++) {
            call("input", random.nextInt(6));
        }
        for (int frame = 0; frame < frames && mayCall(); frame++) {
            if (frame == changed) {
                call("put", level, random.nextInt(sizes.get(level)[0]), random.nextInt(sizes.get(level)[1]), drawTile());
            }
            Object input = call("routeAt", level, frame);
            call("input", input instanceof Integer ? input : 1);
            if (random.nextInt(8) == 0) {
                call(random.nextBoolean() ? "save" : "load", random.nextInt(6));
            }
            if (random.nextInt(4) == 0) {
                call("told", "xyasjf".charAt(random.nextInt(6)));
            }
        }
        useRun(level);
    }

    private void playBadly(int level) {
        call("play", level);
        int most = random.nextInt(12) == 0 ? 155 : 20;
        int kind = random.nextInt(3);
        for (int frame = 0; frame < most && mayCall(); frame++) {
            Object end = call("input", kind == 0 ? random.nextInt(6) : kind == 1 ? 1 + 3 * random.nextInt(2) : 2);
            if (!Character.valueOf('p').equals(end)) {
                break;
            }
            if (random.nextInt(5) == 0) {
                call("told", "xyasjf".charAt(random.nextInt(6)));
            }
        }
        useRun(level);
    }

    private void useRun(int level) {
        Object run = call("keep");
        int kept = run instanceof Integer ? (Integer) run : random.nextInt(4);
        call("publish", level, random.nextInt(4), kept);
        if (random.nextBoolean()) {
            call("replay", kept);
            call("isTrue", kept);
            call("isPatched", kept);
            call("length", kept);
            call("ghost", kept, random.nextInt(5), 'x');
            call("ghost", kept, random.nextInt(9), 'y');
            call("isStolen", level, random.nextInt(4));
            call("makerAt", 0);
            call("makerAt", random.nextInt(4));
        }
    }

    private void askAll(int level) {
        for (String name : new String[] {"isWinnable", "frames", "states", "softLocks", "ways", "rests", "longestAir",
            "checksum", "stuckShare", "meanLeft"}) {
            call(name, level);
        }
        for (char axis : "xyf".toCharArray()) {
            call("softLockAt", level, axis);
        }
        for (char sign : "khsSE".toCharArray()) {
            call("isNeeded", level, sign);
        }
        for (char help : "gst".toCharArray()) {
            call("isWinnableWith", level, help);
        }
        if (!isLarge || random.nextInt(4) == 0) {
            call("mendAt", level, 'x');
            call("mendAt", level, 'y');
        }
        call("bot", level, random.nextInt(10), random.nextInt(3) * 20, random.nextInt(), 1 + random.nextInt(10));
        call("hardest", 'x');
        call("hardest", 'y');
        call("fell", random.nextInt(4), random.nextInt(4));
        call("isSound");
    }

    private void askCells(int level) {
        for (int y = 0; y < sizes.get(level)[1] && mayCall(); y++) {
            call("framesTo", level, random.nextInt(sizes.get(level)[0]), y);
        }
        for (int guard = 0; guard < 3; guard++) {
            call("guardAt", level, guard, random.nextInt(15));
            call("guardAt", level, guard, random.nextInt(11000) - 500);
        }
        call("level", random.nextInt(14), random.nextInt(4), '?');
        call("guard", level, random.nextInt(5), random.nextInt(7), random.nextInt(4));
    }

    private void loadOntoChanged(int level) {
        call("play", level);
        for (int frame = 0; frame < 3; frame++) {
            call("input", 1 + random.nextInt(5));
        }
        Object x = call("told", 'x');
        Object y = call("told", 'y');
        call("save", 2);
        if (x instanceof Integer && y instanceof Integer) {
            if (random.nextInt(3) == 0) {
                int[] ways = {0, 1, 2, 3, 6};
                call("guard", level, random.nextInt(1 + (Integer) x), ways[random.nextInt(5)], y);
            } else {
                call("put", level, x, y, drawTile());
            }
        }
        call("load", 2);
        call("told", 'f');
    }

    private void drawCall() {
        Method method = FACE.get(random.nextInt(FACE.size()));
        if (isLarge && method.getName().startsWith("mend") && random.nextInt(4) > 0) {
            return;
        }
        Class<?>[] types = method.getParameterTypes();
        Object[] args = new Object[types.length];
        for (int i = 0; i < args.length; i++) {
            args[i] = types[i] == char.class ? (Object) drawSign() : (Object) drawNumber();
        }
        if (method.getName().equals("level") && args[0] instanceof Integer) {
            addLevel();
            return;
        }
        if (method.getName().equals("copy")) {
            Object number = call("copy", args);
            if (number instanceof Integer) {
                sizes.add(sizes.get((Integer) args[0]));
            }
            return;
        }
        call(method.getName(), args);
    }

    private char drawSign() {
        int kind = random.nextInt(20);
        if (kind == 0) {
            return (char) random.nextInt(65536);
        }
        return kind < 10 ? "xyfgst".charAt(random.nextInt(6)) : TILES.charAt(random.nextInt(TILES.length()));
    }

    private int drawNumber() {
        int kind = random.nextInt(40);
        if (kind == 0) {
            return random.nextInt();
        }
        if (kind == 1) {
            return new int[] {-1, Integer.MIN_VALUE, Integer.MAX_VALUE, 9999, 10000, 100, 101}[random.nextInt(7)];
        }
        return kind < 30 ? random.nextInt(4) : random.nextInt(13);
    }
}
