import java.util.NoSuchElementException;

/** Promises 43 to 47: figures. */
public final class FiguresTest {
    private static final Class<?> INDEX = IndexOutOfBoundsException.class;

    /** 60 of its 132 states are stuck; from the others 1, 2 or 3 frames are left, 120 in all. */
    private static final String[] SHAFT = {"...", "@.E", "#.#", "#.#", "#.#", "###"};

    public static void main(String[] args) {
        levels();
        checksum();
        stuckShare();
        meanLeft();
        isSound();
        Check.end("FiguresTest");
    }

    private static void levels() {
        Levelsmith house = new Levelsmith();
        Check.same("43 none", 0, house.levels());
        house.level(3, 3, '.');
        Check.same("43 one", 1, house.levels());
        house.copy(0);
        Check.same("43 two", 2, house.levels());
        Check.fails("43 not added", IllegalArgumentException.class, () -> house.level(2, 3, '.'));
        Check.same("43 two yet", 2, house.levels());
    }

    private static void checksum() {
        Levelsmith house = new Levelsmith();
        house.level(3, 3, '.');
        long due = 0 + 31 * 2;
        for (int cell = 0; cell < 9; cell++) {
            due = 31 * due + 46;
        }
        Check.same("44 air", due, house.checksum(0));
        house.start(0, 2, 1);
        house.put(0, 1, 0, 'E');
        house.put(0, 0, 2, '~');
        due = 2 + 31;
        for (char tile : ".E....~..".toCharArray()) {
            due = 31 * due + tile;
        }
        Check.same("44 tiles", due, house.checksum(0));
        house.guard(0, 1, 1, 2);
        due = 31 * due + 1 + 100 + 2000;
        Check.same("44 a guard", due, house.checksum(0));
        house.guard(0, 0, 2, 1);
        due = 31 * due + 0 + 200 + 1000;
        Check.same("44 two guards", due, house.checksum(0));
        house.level(12, 8, 'k');
        due = 31 * 7;
        for (int cell = 0; cell < 96; cell++) {
            due = 31 * due + 'k';
        }
        Check.same("44 a large one goes round", due, house.checksum(1));
        Check.fails("44 no level", INDEX, () -> house.checksum(2));
        Check.fails("44 no level", INDEX, () -> house.checksum(-1));
    }

    private static void stuckShare() {
        Levelsmith house = new Levelsmith();
        Check.fails("45 no level", INDEX, () -> house.stuckShare(0));
        Check.draw(house, SHAFT);
        Check.same("45 some", 60.0f / 132.0f, house.stuckShare(0));
        Check.draw(house, "###", "#@#", "###");
        Check.same("45 all", 1.0f, house.stuckShare(1));
        Check.draw(house, "###", "@.E", "###");
        Check.same("45 none", 0.0f, house.stuckShare(2));
    }

    private static void meanLeft() {
        Levelsmith house = new Levelsmith();
        Check.fails("46 no level", INDEX, () -> house.meanLeft(0));
        Check.draw(house, SHAFT);
        Check.same("46 some are stuck", 120.0 / 72.0, house.meanLeft(0));
        Check.draw(house, "###", "@.E", "###");
        // 2 from the column 0 and 1 from the column 1, in 12 phases each.
        Check.same("46 none is stuck", 36.0 / 24.0, house.meanLeft(1));
        Check.draw(house, "###", "#@#", "###");
        Check.fails("46 cannot be won", NoSuchElementException.class, () -> house.meanLeft(2));
        house.put(2, 1, 1, 'E');
        Check.same("46 won by staying", 1.0, house.meanLeft(2));
    }

    private static void isSound() {
        Levelsmith house = new Levelsmith();
        Check.same("47 no levels", true, house.isSound());
        Check.draw(house, SHAFT);
        Check.draw(house, "####", "@.#E", "####");
        Check.draw(house, "######", "@S.g.E", "######");
        house.level(12, 8, '.');
        house.grow(3, 23);
        Check.same("47 won and not", true, house.isSound());
        house.guard(0, 1, 0, 0);
        house.mend(1);
        Check.same("47 changed", true, house.isSound());
    }
}
