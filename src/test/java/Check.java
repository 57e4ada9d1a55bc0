/** Counts what is as due, prints what is not, and draws levels for the tests. */
final class Check {
    /** A call that may throw. */
    interface Call {
        Object answer() throws Exception;
    }

    private static int passed = 0;
    private static int failed = 0;

    private Check() {
    }

    static void same(String what, Object due, Object got) {
        if (due.equals(got)) {
            passed++;
        } else {
            failed++;
            System.out.println(what + " answered " + got + ", due is " + due);
        }
    }

    static void fails(String what, Class<?> due, Call call) {
        String got;
        try {
            got = "the answer " + call.answer();
        } catch (Exception e) {
            got = nameOf(e);
        }
        same(what, due.getName(), got);
    }

    /** The name of what was thrown, marked if no throw statement of Levelsmith did it. */
    static String nameOf(Throwable thrown) {
        StackTraceElement[] calls = thrown.getStackTrace();
        boolean isItsOwn = calls.length > 0 && calls[0].getClassName().startsWith("Levelsmith");
        return thrown.getClass().getName() + (isItsOwn ? "" : " that the machine throws");
    }

    /** Adds a level as it is drawn, row by row; '@' is air and the start. */
    static int draw(Levelsmith house, String... rows) {
        int level = house.level(rows[0].length(), rows.length, '.');
        redraw(house, level, rows);
        return level;
    }

    static void redraw(Levelsmith house, int level, String... rows) {
        for (int y = 0; y < rows.length; y++) {
            for (int x = 0; x < rows[y].length(); x++) {
                char sign = rows[y].charAt(x);
                house.put(level, x, y, sign == '@' ? '.' : sign);
                if (sign == '@') {
                    house.start(level, x, y);
                }
            }
        }
    }

    static String row(Levelsmith house, int level, int y, int wide) {
        StringBuilder row = new StringBuilder();
        for (int x = 0; x < wide; x++) {
            row.append(house.tile(level, x, y));
        }
        return row.toString();
    }

    static String route(Levelsmith house, int level) {
        StringBuilder route = new StringBuilder();
        for (int frame = 0; frame < house.frames(level); frame++) {
            route.append(house.routeAt(level, frame));
        }
        return route.toString();
    }

    /** Gives inputs, a figure each, and tells what they answered. */
    static String give(Levelsmith house, String inputs) {
        StringBuilder ends = new StringBuilder();
        for (int i = 0; i < inputs.length(); i++) {
            ends.append(house.input(inputs.charAt(i) - '0'));
        }
        return ends.toString();
    }

    static String told(Levelsmith house, String letters) {
        StringBuilder told = new StringBuilder();
        for (int i = 0; i < letters.length(); i++) {
            told.append(i == 0 ? "" : " ").append(house.told(letters.charAt(i)));
        }
        return told.toString();
    }

    static void end(String name) {
        System.out.println(name + ": " + passed + " as due, " + failed + " not");
        if (failed > 0 || passed == 0) {
            System.exit(1);
        }
    }
}
