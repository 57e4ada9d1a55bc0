/**
 * All that can be seen of a house, as one text, by some 200 calls. Two houses with the same calls behind them must tell
 * the same, also if one of them refused a call in between. The house is no more what it was then.
 */
final class Account {
    private final Levelsmith house;
    private final StringBuilder text = new StringBuilder();

    private Account(Levelsmith house) {
        this.house = house;
    }

    static String of(Levelsmith house) {
        Account account = new Account(house);
        account.tellGame();
        account.tellLevels();
        account.tellRuns();
        account.tellBotAndShown();
        account.tellEnd();
        account.tellSlots();
        return account.text.toString();
    }

    /** The first line in which two accounts are unlike; empty if there is none. */
    static String unlike(String due, String got) {
        String[] dues = due.split("\n");
        String[] gots = got.split("\n");
        for (int i = 0; i < dues.length && i < gots.length; i++) {
            if (!dues[i].equals(gots[i])) {
                return gots[i] + ", due is " + dues[i];
            }
        }
        return dues.length == gots.length ? "" : gots.length + " lines, due are " + dues.length;
    }

    private Object tell(String name, Check.Call call) {
        Object answer;
        try {
            answer = call.answer();
        } catch (Exception e) {
            answer = e.getClass().getSimpleName();
        }
        text.append(name).append('=').append(answer).append('\n');
        return answer;
    }

    private boolean isTold(String name, Check.Call call) {
        return !"IndexOutOfBoundsException".equals(tell(name, call));
    }

    private void tellGame() {
        for (char what : "xyasjf".toCharArray()) {
            tell("told " + what, () -> house.told(what));
        }
        tell("deaths", house::deaths);
        tell("levels", house::levels);
    }

    private void tellLevels() {
        for (int number = 0; number < 6; number++) {
            int level = number;
            if (isTold("sum " + level, () -> house.checksum(level))) {
                tell("won " + level, () -> house.isWinnable(level));
                tell("states " + level, () -> house.states(level));
                tell("stuck " + level, () -> house.softLocks(level));
                tell("mends " + level, () -> house.mendAt(level, 'x'));
                tell("stolen " + level, () -> house.isStolen(level, 9));
            }
        }
    }

    private void tellRuns() {
        for (int number = 0; number < 11; number++) {
            int run = number;
            if (isTold("length " + run, () -> house.length(run))) {
                tell("true " + run, () -> house.isTrue(run));
                tell("patched " + run, () -> house.isPatched(run));
                tell("replay " + run, () -> house.replay(run));
                tell("ghost " + run, () -> house.ghost(run, 1, 'x'));
            }
        }
    }

    private void tellBotAndShown() {
        for (int cell = 0; cell < 20; cell++) {
            int at = cell;
            tell("fell " + at, () -> house.fell(at % 5, at / 5));
        }
        tell("hardest x", () -> house.hardest('x'));
        tell("hardest y", () -> house.hardest('y'));
        boolean more = true;
        for (int number = 0; more && number < 10; number++) {
            int rank = number;
            more = isTold("rank " + rank, () -> house.makerAt(rank));
        }
    }

    /** Whether a game that goes on still does, and whether one that has ended can still be kept. */
    private void tellEnd() {
        tell("keep", house::keep);
        tell("input", () -> house.input(1));
        tell("told f", () -> house.told('f'));
    }

    private void tellSlots() {
        for (int number = 0; number < 6; number++) {
            int slot = number;
            if (tell("load " + slot, () -> house.load(slot)) instanceof Integer) {
                for (char what : "xyasjf".toCharArray()) {
                    tell("told " + what, () -> house.told(what));
                }
                tell("input", () -> house.input(1));
            }
        }
    }
}
