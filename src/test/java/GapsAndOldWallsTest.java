import java.util.NoSuchElementException;

/** Promises 42 to 47: gaps that are mended, and old walls. */
public final class GapsAndOldWallsTest {
    private static final Class<IllegalArgumentException> ARGUMENT = IllegalArgumentException.class;
    private static final Class<IllegalStateException> STATE = IllegalStateException.class;
    private static final Class<IndexOutOfBoundsException> BOUNDS = IndexOutOfBoundsException.class;
    private static final Class<UnsupportedOperationException> UNSUPPORTED = UnsupportedOperationException.class;
    private static final Class<NoSuchElementException> ELEMENT = NoSuchElementException.class;

    private final Checks checks = new Checks();

    public static void main(String[] args) {
        GapsAndOldWallsTest test = new GapsAndOldWallsTest();
        test.gap();
        test.nextGap();
        test.mend();
        test.mendUpToTheGreatest();
        test.oldWall();
        test.meet();
        test.meetWrong();
        test.meetBonded();
        test.meetYoungerThanItself();
        test.phase();
        test.checks.end();
    }

    private void gap() {
        Copestone yard = new Copestone();
        int[][] wrong = {{0, 1}, {100, 1}, {1, -1}, {1, 1000}, {Integer.MIN_VALUE, 1}, {1, Integer.MAX_VALUE}};
        for (int[] w : wrong) {
            checks.dueThrows("42: " + w[0] + " " + w[1], yard, ARGUMENT, () -> yard.gap(w[0], w[1]));
        }
        checks.due("42: the least", yard.gap(1, 0), 1);
        checks.due("42: the greatest", yard.gap(99, 999), 2);
        for (int i = 3; i <= 10; i++) {
            checks.due("42: how many", yard.gap(1, 1), i);
        }
        checks.dueThrows("42: the 11th", yard, STATE, () -> yard.gap(1, 1));
        checks.dueThrows("42: a wrong 11th", yard, ARGUMENT, () -> yard.gap(0, 1));
        yard.mend(0);
        checks.due("42: one was mended", yard.gap(1, 1), 10);
    }

    private void nextGap() {
        Copestone yard = new Copestone();
        checks.dueThrows("43: none", yard, ELEMENT, yard::nextGap);
        yard.gap(5, 0);
        checks.due("43: no sheep", yard.nextGap(), 5);
        yard.gap(6, 0);
        checks.due("43: the one told first", yard.nextGap(), 5);
        yard.gap(4, 2);
        yard.gap(3, 2);
        checks.due("43: the most by length", yard.nextGap(), 3);
        yard.gap(6, 4);
        checks.due("43: as many by length, told later", yard.nextGap(), 3);
        yard.gap(99, 999);
        yard.gap(98, 989);
        checks.due("43: 999 by 99 and 989 by 98", yard.nextGap(), 98);
        checks.due("43: it stays", yard.nextGap(), 98);
    }

    private void mend() {
        Copestone yard = new Copestone();
        checks.dueThrows("44: none", yard, ELEMENT, () -> yard.mend(1));
        checks.dueThrows("44: none, below 0", yard, ARGUMENT, () -> yard.mend(-1));
        yard.gap(2, 1);
        yard.gap(4, 8);
        yard.gap(3, 6);
        yard.gap(7, 1);
        checks.dueThrows("44: below 0", yard, ARGUMENT, () -> yard.mend(Long.MIN_VALUE));
        checks.due("44: 4 times 10", yard.mend(10), 40L);
        checks.due("44: the next", yard.nextGap(), 3);
        checks.due("44: 3 times 1, in all", yard.mend(1), 43L);
        checks.due("44: nothing", yard.mend(0), 43L);
        checks.due("44: the last", yard.nextGap(), 7);
        checks.due("44: it brings", yard.mend(1), 50L);
        checks.dueThrows("44: all are mended", yard, ELEMENT, () -> yard.mend(1));
        checks.dueThrows("43: all are mended", yard, ELEMENT, yard::nextGap);
    }

    private void mendUpToTheGreatest() {
        Copestone yard = new Copestone();
        for (int i = 0; i < 5; i++) {
            yard.gap(7, 1);
        }
        yard.gap(1, 0);
        checks.due("44: a seventh of the greatest, it divides it", yard.mend(Long.MAX_VALUE / 7 - 1), Long.MAX_VALUE - 7);
        checks.due("44: up to the greatest", yard.mend(1), Long.MAX_VALUE);
        checks.due("44: nothing more", yard.mend(0), Long.MAX_VALUE);
        checks.due("44: not beyond", yard.mend(1), Long.MAX_VALUE);
        checks.due("44: far from beyond", yard.mend(Long.MAX_VALUE), Long.MAX_VALUE);
        Copestone other = new Copestone();
        other.gap(99, 1);
        checks.due("44: beyond at once", other.mend(Long.MAX_VALUE), Long.MAX_VALUE);
        Copestone third = new Copestone();
        third.gap(4, 1);
        checks.due("44: 4 times a quarter and one", third.mend(Long.MAX_VALUE / 4 + 1), Long.MAX_VALUE);
    }

    private void oldWall() {
        Copestone yard = new Copestone();
        for (int i = 0; i < 8; i++) {
            checks.due("45: number", yard.oldWall(), i);
        }
        checks.dueThrows("45: the 9th", yard, STATE, yard::oldWall);
    }

    private static Copestone walls(int many) {
        Copestone yard = new Copestone();
        for (int i = 0; i < many; i++) {
            yard.oldWall();
        }
        return yard;
    }

    private void meet() {
        Copestone yard = walls(4);
        checks.due("46: it butts", yard.meet(1, 0, false), 2);
        checks.due("46: the phase of the first one", yard.meet(0, 2, false), 2);
        checks.due("46: younger by way of another", yard.phase(1), 3);
        checks.due("46: told again", yard.meet(1, 0, false), 3);
        checks.due("46: bonded", yard.meet(3, 0, true), 2);
        checks.due("46: bonded again", yard.meet(0, 3, true), 2);
    }

    private void meetWrong() {
        Copestone yard = walls(3);
        for (int wrong : new int[] {-1, 3, 8, Integer.MAX_VALUE, Integer.MIN_VALUE}) {
            checks.dueThrows("46: first " + wrong, yard, BOUNDS, () -> yard.meet(wrong, 0, false));
            checks.dueThrows("46: other " + wrong, yard, BOUNDS, () -> yard.meet(0, wrong, true));
            checks.dueThrows("46: both " + wrong, yard, BOUNDS, () -> yard.meet(wrong, wrong, true));
        }
        checks.dueThrows("46: the same butts", yard, ARGUMENT, () -> yard.meet(2, 2, false));
        checks.dueThrows("46: the same bonded", yard, ARGUMENT, () -> yard.meet(2, 2, true));
    }

    private void meetBonded() {
        Copestone yard = walls(6);
        yard.meet(0, 1, true);
        yard.meet(2, 3, true);
        yard.meet(1, 4, false);
        checks.due("46: one of its time is younger", yard.phase(0), 2);
        yard.meet(3, 0, false);
        checks.due("46: all of a time", yard.phase(2), 3);
        checks.due("46: a bond between times", yard.meet(5, 2, true), 3);
        Copestone joined = walls(6);
        joined.meet(0, 1, true);
        joined.meet(2, 3, true);
        joined.meet(4, 0, false);
        joined.meet(3, 5, false);
        checks.due("46: a bond joins both times", joined.meet(0, 2, true), 2);
        checks.due("46: the last one of it", joined.phase(1), 2);
        checks.due("46: the one that butts it", joined.phase(4), 3);
    }

    private void meetYoungerThanItself() {
        Copestone yard = walls(6);
        yard.meet(1, 0, false);
        yard.meet(2, 1, false);
        yard.meet(3, 2, true);
        checks.dueThrows("46: it butts back", yard, UNSUPPORTED, () -> yard.meet(0, 1, false));
        checks.dueThrows("46: by way of others", yard, UNSUPPORTED, () -> yard.meet(0, 2, false));
        checks.dueThrows("46: by way of a bond", yard, UNSUPPORTED, () -> yard.meet(0, 3, false));
        checks.dueThrows("46: bonded with an older one", yard, UNSUPPORTED, () -> yard.meet(3, 0, true));
        checks.dueThrows("46: bonded with a younger one", yard, UNSUPPORTED, () -> yard.meet(0, 3, true));
        checks.dueThrows("46: it butts one of its time", yard, UNSUPPORTED, () -> yard.meet(3, 2, false));
        checks.due("46: the other way it is fine", yard.meet(3, 0, false), 3);
        yard.meet(4, 5, true);
        yard.meet(5, 3, false);
        checks.dueThrows("46: of one time with a younger one", yard, UNSUPPORTED, () -> yard.meet(0, 4, false));
        checks.due("46: two that do not depend", walls(2).meet(1, 0, true), 1);
    }

    private void phase() {
        Copestone yard = walls(8);
        for (int wrong : new int[] {-1, 8, Integer.MAX_VALUE, Integer.MIN_VALUE}) {
            checks.dueThrows("47: phase(" + wrong + ")", yard, BOUNDS, () -> yard.phase(wrong));
        }
        checks.due("47: without any", yard.phase(7), 1);
        for (int i = 7; i > 0; i--) {
            yard.meet(i, i - 1, false);
        }
        for (int i = 0; i < 8; i++) {
            checks.due("47: phase(" + i + ")", yard.phase(i), i + 1);
        }
        Copestone two = walls(4);
        two.meet(1, 0, false);
        two.meet(2, 1, false);
        two.meet(3, 0, false);
        two.meet(3, 2, false);
        checks.due("47: the greatest counts", two.phase(3), 4);
    }
}
