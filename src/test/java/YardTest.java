/** Promises 48 to 51: what is told of the yard as a whole. */
public final class YardTest {
    private final Checks checks = new Checks();

    public static void main(String[] args) {
        YardTest test = new YardTest();
        test.wallShare();
        test.meanLoad();
        test.meanLoadOfGreatLoads();
        test.checksum();
        test.isTrue();
        test.checks.end();
    }

    private static void lay(Copestone yard, int l, int h, int t, int course, boolean isFront, int place) {
        yard.lift(yard.stone(l, h, t));
        yard.lay(course, isFront, place);
    }

    private void wallShare() {
        Copestone yard = new Copestone();
        checks.dueThrows("48: no stones", yard, ArithmeticException.class, yard::wallShare);
        yard.build(4, 4, 0);
        yard.stone(1, 1, 1);
        checks.due("48: none in the wall", yard.wallShare(), 0.0f);
        lay(yard, 4, 2, 1, 0, true, 0);
        checks.due("48: one of two", yard.wallShare(), 0.5f);
        lay(yard, 4, 2, 1, 0, false, 0);
        checks.due("48: two of three", yard.wallShare(), 2.0f / 3.0f);
        yard.lift(0);
        checks.due("48: not in the hand", yard.wallShare(), 2.0f / 3.0f);
        yard.pack(0);
        checks.due("48: packed", yard.wallShare(), 1.0f);
        yard.lift(yard.stone(2, 1, 4));
        yard.cope();
        checks.due("48: a cope", yard.wallShare(), 1.0f);
        yard.lift(yard.stone(2, 1, 4));
        yard.throwAway();
        checks.due("48: gone ones are counted among all", yard.wallShare(), 4.0f / 5.0f);
        yard.build(4, 4, 0);
        checks.due("48: the wall is gone", yard.wallShare(), 0.0f);
    }

    private void meanLoad() {
        Copestone yard = new Copestone();
        checks.dueThrows("49: no stones", yard, ArithmeticException.class, yard::meanLoad);
        yard.build(4, 4, 0);
        yard.stone(1, 1, 1);
        checks.dueThrows("49: none is laid", yard, ArithmeticException.class, yard::meanLoad);
        lay(yard, 4, 2, 1, 0, true, 0);
        checks.due("49: its own weight", yard.meanLoad(), 40.0);
        lay(yard, 4, 2, 2, 0, false, 0);
        checks.due("49: two", yard.meanLoad(), 60.0);
        lay(yard, 1, 2, 1, 1, true, 0);
        checks.due("49: three, one on another", yard.meanLoad(), (50.0 + 80.0 + 10.0) / 3.0);
        yard.lift(0);
        yard.pack(0);
        checks.due("49: packed ones aside", yard.meanLoad(), (50.0 + 80.0 + 10.0) / 3.0);
        Copestone coped = new Copestone();
        coped.build(4, 4, 0);
        lay(coped, 4, 1, 4, 0, true, 0);
        coped.lift(coped.stone(1, 1, 4));
        coped.cope();
        checks.due("49: with a cope", coped.meanLoad(), (100.0 + 20.0) / 2.0);
    }

    private void meanLoadOfGreatLoads() {
        Copestone yard = new Copestone();
        yard.build(4, 4, 0);
        lay(yard, 4, 2, 1, 0, true, 0);
        lay(yard, 4, 2, 1, 0, false, 0);
        yard.press(true, 0, Long.MAX_VALUE);
        yard.press(false, 0, Long.MAX_VALUE);
        checks.due("49: a sum beyond the greatest long", yard.meanLoad(), (double) Long.MAX_VALUE);
    }

    private void checksum() {
        Copestone yard = new Copestone();
        checks.due("50: at first", yard.checksum(), 7L * 31 * 31);
        yard.stone(3, 2, 1);
        long one = (7L * 31 + 'h') * 31 + 3;
        checks.due("50: a stone", yard.checksum(), one * 31 * 31);
        yard.build(4, 4, 0);
        yard.lift(0);
        yard.lay(0, true, 0);
        lay(yard, 1, 1, 1, 0, true, 3);
        long two = (((7L * 31 + 'w') * 31 + 3) * 31 + 'w') * 31 + 1;
        checks.due("50: two stones, a pin", yard.checksum(), (two * 31 + 1) * 31);
        yard.gap(2, 1);
        yard.mend(500);
        checks.due("50: the money", yard.checksum(), (two * 31 + 1) * 31 + 1000);
        yard.build(4, 4, 0);
        long gone = (((7L * 31 + 'g') * 31 + 3) * 31 + 'g') * 31 + 1;
        checks.due("50: a new wall without pins", yard.checksum(), gone * 31 * 31 + 1000);
    }

    private void isTrue() {
        Copestone yard = new Copestone();
        yard.runs(2);
        yard.build(4, 4, 0);
        lay(yard, 2, 2, 4, 0, true, 0);
        lay(yard, 2, 2, 4, 0, true, 2);
        lay(yard, 2, 2, 4, 1, true, 0);
        lay(yard, 2, 2, 4, 1, true, 2);
        yard.lift(yard.stone(4, 1, 4));
        yard.cope();
        checks.due("51: a wall with a cope", yard.isTrue(), true);
        yard.push(0, 100000);
        yard.fall();
        checks.due("51: behind a fall", yard.isTrue(), true);
        yard.arch(2);
        yard.voussoir(0, 10, 20, 80, 100);
        yard.voussoir(1, 10, 20, 50, 90);
        yard.set();
        yard.set();
        yard.strike();
        checks.due("51: an arch that stands", yard.isTrue(), true);
        yard.build(4, 4, 0);
        yard.lift(yard.stone(4, 1, 4));
        checks.due("51: a new wall, a stone in the hand", yard.isTrue(), true);
    }
}
