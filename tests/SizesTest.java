/** Promises 2 to 11: sizes, lasts and feet. */
public final class SizesTest {
    private static final Class<IllegalArgumentException> BAD = IllegalArgumentException.class;
    private static final Class<IndexOutOfBoundsException> NO_SUCH = IndexOutOfBoundsException.class;
    private static final Class<IllegalStateException> STATE = IllegalStateException.class;
    private static final Class<UnsupportedOperationException> UNFIT = UnsupportedOperationException.class;

    public static void main(String[] args) {
        lengths();
        conversions();
        models();
        girths();
        setsLasts();
        missesLasts();
        misfits();
        bestOnes();
        Check.end();
    }

    private static void lengths() {
        Lastroom x = new Lastroom();
        Check.is(1000, () -> x.length('f', 15));
        Check.is(2666, () -> x.length('f', 40));
        Check.is(3333, () -> x.length('f', 50));
        Check.is(2116, () -> x.length('u', 0));
        Check.is(2370, () -> x.length('u', 3));
        Check.is(3386, () -> x.length('u', 15));
        Check.is(2116, () -> x.length('a', 1));
        Check.is(2624, () -> x.length('a', 7));
        Check.is(3386, () -> x.length('a', 16));
        Check.is(1500, () -> x.length('m', 150));
        Check.is(3300, () -> x.length('m', 330));
        int[][] outside = {{'f', 14, 51}, {'u', -1, 16}, {'a', 0, 17}, {'m', 149, 331}};
        for (int[] row : outside) {
            Check.fails(BAD, () -> x.length((char) row[0], row[1]));
            Check.fails(BAD, () -> x.length((char) row[0], row[2]));
            Check.fails(BAD, () -> x.length((char) row[0], Integer.MAX_VALUE));
            Check.fails(BAD, () -> x.length((char) row[0], Integer.MIN_VALUE));
        }
        Check.fails(BAD, () -> x.length('F', 40));
        Check.fails(BAD, () -> x.length('\0', 200));
    }

    private static void conversions() {
        Lastroom x = new Lastroom();
        Check.is(6, () -> x.convert('f', 40, 'u'));
        Check.is(7, () -> x.convert('f', 40, 'a'));
        Check.is(267, () -> x.convert('f', 40, 'm'));
        Check.is(40, () -> x.convert('m', 265, 'f'));
        Check.is(40, () -> x.convert('f', 40, 'f'));
        Check.is(15, () -> x.convert('f', 15, 'f'));
        Check.is(50, () -> x.convert('f', 50, 'f'));
        // Below and above all that the other system has.
        Check.is(0, () -> x.convert('f', 15, 'u'));
        Check.is(1, () -> x.convert('f', 15, 'a'));
        Check.is(150, () -> x.convert('f', 15, 'm'));
        Check.is(330, () -> x.convert('f', 50, 'm'));
        Check.is(50, () -> x.convert('u', 15, 'f'));
        Check.is(14, () -> x.convert('m', 330, 'u'));
        Check.is(16, () -> x.convert('u', 15, 'a'));
        Check.is(0, () -> x.convert('a', 1, 'u'));
        Check.is(1, () -> x.convert('a', 2, 'u'));
        Check.is(2, () -> x.convert('u', 1, 'a'));
        // 2455 is as near to 2450 as to 2460.
        Check.is(2455, () -> x.length('u', 4));
        Check.is(245, () -> x.convert('u', 4, 'm'));
        Check.is(245, () -> x.convert('a', 5, 'm'));
        Check.fails(BAD, () -> x.convert('x', 40, 'f'));
        Check.fails(BAD, () -> x.convert('f', 40, 'x'));
        Check.fails(BAD, () -> x.convert('f', 14, 'u'));
        Check.fails(BAD, () -> x.convert('f', 51, 'u'));
        Check.fails(BAD, () -> x.convert('m', 40, 'f'));
    }

    private static void models() {
        Lastroom x = new Lastroom();
        Check.fails(BAD, () -> x.model(1499, 10));
        Check.fails(BAD, () -> x.model(3501, 10));
        Check.fails(BAD, () -> x.model(1500, 9));
        Check.fails(BAD, () -> x.model(1500, 100));
        Check.is(0, () -> x.model(1500, 10));
        Check.is(1, () -> x.model(3500, 99));
        Check.is(2, () -> x.model(2000, 50));
        Check.is(3, () -> x.model(2000, 50));
        Check.is(4, () -> x.model(2000, 50));
        Check.fails(STATE, () -> x.model(2000, 50));
        Check.fails(BAD, () -> x.model(2000, 9));
    }

    private static void girths() {
        Lastroom x = new Lastroom();
        Check.fails(NO_SUCH, () -> x.girth(0, 14));
        x.model(2300, 50);
        x.model(1500, 99);
        Check.is(2300, () -> x.girth(0, 40));
        Check.is(2350, () -> x.girth(0, 41));
        Check.is(2250, () -> x.girth(0, 39));
        Check.is(2800, () -> x.girth(0, 50));
        Check.is(1050, () -> x.girth(0, 15));
        Check.is(-975, () -> x.girth(1, 15));
        Check.fails(BAD, () -> x.girth(0, 14));
        Check.fails(BAD, () -> x.girth(0, 51));
        Check.fails(NO_SUCH, () -> x.girth(2, 40));
        Check.fails(NO_SUCH, () -> x.girth(-1, 40));
        Check.fails(NO_SUCH, () -> x.girth(5, 40));
    }

    private static void setsLasts() {
        Lastroom x = new Lastroom();
        Check.fails(NO_SUCH, () -> x.setLasts(0, 14, 10));
        x.model(2300, 50);
        x.model(2300, 50);
        Check.fails(BAD, () -> x.setLasts(0, 14, 1));
        Check.fails(BAD, () -> x.setLasts(0, 51, 1));
        Check.fails(BAD, () -> x.setLasts(0, 40, -1));
        Check.fails(BAD, () -> x.setLasts(0, 40, 10));
        Check.is(0, () -> x.setLasts(0, 40, 9));
        Check.is(9, () -> x.setLasts(0, 40, 2));
        Check.is(0, () -> x.setLasts(0, 15, 3));
        Check.is(0, () -> x.setLasts(0, 50, 4));
        Check.is(3, () -> x.freeLasts(0, 15));
        Check.is(0, () -> x.setLasts(0, 42, 5));
        Check.is(5, () -> x.setLasts(0, 42, 0));
        Check.is(0, () -> x.freeLasts(0, 42));
        Check.is(4, () -> x.freeLasts(0, 50));
        Check.is(0, () -> x.freeLasts(1, 40));
        Check.is(0, () -> x.freeLasts(0, 41));
        x.style(0, 'w', 0, 1);
        x.style(1, 'w', 0, 1);
        x.ticket(0, 40);
        x.ticket(0, 40);
        x.ticket(1, 40);
        x.ticket(0, 41);
        Check.is(1, () -> x.lastOn(0));
        Check.is(0, () -> x.lastOn(1));
        Check.is(0, () -> x.freeLasts(0, 40));
        Check.fails(UNFIT, () -> x.setLasts(0, 40, 1));
        Check.is(2, () -> x.setLasts(0, 40, 3));
        Check.is(1, () -> x.freeLasts(0, 40));
        Check.is(3, () -> x.setLasts(0, 40, 2));
        x.pass(30);
        x.sole(0, -1, false);
        // A soled pair stands on its lasts still.
        Check.fails(UNFIT, () -> x.setLasts(0, 40, 1));
        Check.is(0, () -> x.freeLasts(0, 40));
        x.pass(10);
        Check.is(1, () -> x.takeOff(0));
        Check.is(2, () -> x.setLasts(0, 40, 1));
        Check.is(0, () -> x.freeLasts(0, 40));
        Check.fails(BAD, () -> x.freeLasts(0, 14));
        Check.fails(BAD, () -> x.freeLasts(0, 51));
        Check.fails(NO_SUCH, () -> x.freeLasts(2, 51));
        Check.fails(NO_SUCH, () -> x.freeLasts(-1, 40));
    }

    private static void missesLasts() {
        Lastroom x = new Lastroom();
        Check.fails(NO_SUCH, () -> x.missingLasts(0, 51));
        x.model(2300, 50);
        x.model(2300, 50);
        x.style(0, 'w', 0, 1);
        x.style(0, 's', 3, 2);
        x.style(1, 's', 3, 2);
        x.style(0, 's', 3, 2);
        x.seam(3, 0, 10, 0);
        x.ticket(0, 40);
        x.ticket(1, 40);
        x.ticket(2, 40);
        x.ticket(0, 41);
        x.ticket(3, 40);
        Check.is(2, () -> x.missingLasts(0, 40));
        Check.is(1, () -> x.missingLasts(0, 41));
        Check.is(1, () -> x.missingLasts(1, 40));
        Check.is(0, () -> x.missingLasts(1, 41));
        x.setLasts(0, 40, 1);
        Check.is(1, () -> x.missingLasts(0, 40));
        x.lastOn(0);
        Check.is(1, () -> x.missingLasts(0, 40));
        x.setLasts(0, 40, 9);
        Check.is(0, () -> x.missingLasts(0, 40));
        x.setLasts(0, 40, 1);
        x.setSkill(0, 0, true);
        x.setSkill(1, 0, true);
        x.sew(4, 0, 0, 0);
        x.sew(4, 1, 0, 1);
        x.pass(9);
        Check.is(1, () -> x.missingLasts(0, 40));
        x.pass(1);
        Check.is(2, () -> x.missingLasts(0, 40));
        Check.fails(BAD, () -> x.missingLasts(0, 14));
        Check.fails(BAD, () -> x.missingLasts(0, 51));
        Check.fails(NO_SUCH, () -> x.missingLasts(2, 40));
        Check.fails(NO_SUCH, () -> x.missingLasts(-1, 40));
    }

    private static void misfits() {
        Lastroom x = new Lastroom();
        Check.fails(BAD, () -> x.misfit(2600, 2300, 0, 51));
        Check.fails(NO_SUCH, () -> x.misfit(2600, 2300, 0, 50));
        x.model(2300, 50);
        Check.is(0, () -> x.misfit(2566, 2300, 0, 40));
        Check.is(34, () -> x.misfit(2600, 2300, 0, 40));
        Check.is(66, () -> x.misfit(2500, 2300, 0, 40));
        Check.is(36, () -> x.misfit(2600, 2301, 0, 40));
        Check.is(54, () -> x.misfit(2600, 2290, 0, 40));
        Check.is(133, () -> x.misfit(2600, 2300, 0, 41));
        Check.is(7000, () -> x.misfit(1000, 4500, 0, 15));
        Check.is(2233 + 2 * 1800, () -> x.misfit(1000, 1000, 0, 50));
        Check.is(267 + 2 * 1700, () -> x.misfit(3500, 4500, 0, 50));
        Check.fails(BAD, () -> x.misfit(999, 2300, 0, 40));
        Check.fails(BAD, () -> x.misfit(3501, 2300, 0, 40));
        Check.fails(BAD, () -> x.misfit(2600, 999, 0, 40));
        Check.fails(BAD, () -> x.misfit(2600, 4501, 0, 40));
        Check.fails(BAD, () -> x.misfit(2600, 2300, 0, 14));
        Check.fails(BAD, () -> x.misfit(2600, 4501, 9, 40));
        Check.fails(NO_SUCH, () -> x.misfit(2600, 2300, 1, 40));
        Check.fails(NO_SUCH, () -> x.misfit(2600, 2300, -1, 40));
    }

    private static void bestOnes() {
        Lastroom x = new Lastroom();
        Check.fails(BAD, () -> x.bestModel(999, 2300));
        Check.fails(java.util.NoSuchElementException.class, () -> x.bestModel(1000, 2300));
        Check.fails(BAD, () -> x.bestSize(999, 2300, 0));
        Check.fails(NO_SUCH, () -> x.bestSize(1000, 2300, 0));
        x.model(1500, 10);
        x.model(2300, 50);
        x.model(2300, 50);
        x.model(3000, 50);
        Check.is(1, () -> x.bestModel(2600, 2300));
        Check.is(0, () -> x.bestModel(2600, 1500));
        Check.is(3, () -> x.bestModel(2600, 3100));
        // The first model reaches a girth of 1600 in the size 50.
        Check.is(0, () -> x.bestModel(3233, 1600));
        Check.is(40, () -> x.bestSize(2600, 2300, 1));
        Check.is(15, () -> x.bestSize(1000, 1000, 1));
        Check.is(50, () -> x.bestSize(3500, 4500, 1));
        Check.is(45, () -> x.bestSize(2900, 1550, 0));
        // The lasts of 40 and 41 are 2566 and 2633 long; the girths of the first model differ by 20 in all.
        Check.is(40, () -> x.bestSize(2599, 1505, 0));
        Check.is(41, () -> x.bestSize(2600, 1505, 0));
        // By 42 and by 43, 66 less of length are 66 more of both girths.
        x.model(1500, 33);
        Check.is(222, () -> x.misfit(2790, 1500, 4, 42));
        Check.is(222, () -> x.misfit(2790, 1500, 4, 43));
        Check.is(42, () -> x.bestSize(2790, 1500, 4));
        Check.fails(BAD, () -> x.bestModel(3501, 2300));
        Check.fails(BAD, () -> x.bestModel(2600, 999));
        Check.fails(BAD, () -> x.bestModel(2600, 4501));
        Check.fails(BAD, () -> x.bestSize(3501, 2300, 0));
        Check.fails(BAD, () -> x.bestSize(2600, 999, 0));
        Check.fails(BAD, () -> x.bestSize(2600, 4501, 9));
        Check.fails(NO_SUCH, () -> x.bestSize(2600, 2300, 5));
        Check.fails(NO_SUCH, () -> x.bestSize(2600, 2300, -1));
    }
}
