import java.util.NoSuchElementException;

/** Promises 28 and 29: the filling of a skin. */
public final class FillTest {
    private static final Class<IllegalStateException> STATE = IllegalStateException.class;
    private static final Class<IndexOutOfBoundsException> BOUNDS = IndexOutOfBoundsException.class;
    private static final Class<NoSuchElementException> ELEMENT = NoSuchElementException.class;

    private final Checks checks = new Checks();

    public static void main(String[] args) {
        FillTest test = new FillTest();
        test.wrong();
        test.full();
        test.fewest();
        test.firstInTheHeap();
        test.onlyTwelve();
        test.height();
        test.fromTheFirstFreePlace();
        test.onStone();
        test.joints();
        test.jointsBelowAndTheHand();
        test.tailsAndCopesAside();
        test.long24();
        test.checks.end();
    }

    private static void lay(Copestone yard, int l, int h, int t, int course, boolean isFront, int place) {
        yard.lift(yard.stone(l, h, t));
        yard.lay(course, isFront, place);
    }

    private static Copestone wall(int length, int... lengths) {
        Copestone yard = new Copestone();
        yard.build(length, 6, 0);
        for (int l : lengths) {
            yard.stone(l, 2, 2);
        }
        return yard;
    }

    private void due(String what, Copestone yard, int course, boolean isFront, int... stones) {
        checks.due("28: " + what, yard.fill(course, isFront), stones.length);
        for (int i = 0; i < stones.length; i++) {
            checks.due("29: " + what + ", " + i, yard.fillAt(course, isFront, i), stones[i]);
        }
        checks.dueThrows("29: " + what + ", below", yard, ELEMENT, () -> yard.fillAt(course, isFront, -1));
        checks.dueThrows("29: " + what + ", above", yard, ELEMENT, () -> yard.fillAt(course, isFront, stones.length));
    }

    private void dueNone(String what, Copestone yard, int course, boolean isFront) {
        checks.dueThrows("28: " + what, yard, ELEMENT, () -> yard.fill(course, isFront));
        checks.dueThrows("29: " + what, yard, ELEMENT, () -> yard.fillAt(course, isFront, 0));
    }

    private void wrong() {
        Copestone yard = new Copestone();
        checks.dueThrows("28: no wall", yard, STATE, () -> yard.fill(0, true));
        checks.dueThrows("28: no wall, no course", yard, STATE, () -> yard.fill(-1, true));
        checks.dueThrows("29: no wall", yard, STATE, () -> yard.fillAt(-1, true, -1));
        yard.build(4, 4, 1);
        for (int wrong : new int[] {-1, 3, 8, Integer.MAX_VALUE, Integer.MIN_VALUE}) {
            checks.dueThrows("28: course " + wrong, yard, BOUNDS, () -> yard.fill(wrong, true));
            checks.dueThrows("29: course " + wrong, yard, BOUNDS, () -> yard.fillAt(wrong, true, -1));
        }
        dueNone("an empty heap", yard, 0, true);
        yard.stone(3, 1, 1);
        dueNone("too short", yard, 0, true);
        yard.stone(5, 1, 1);
        dueNone("too long", yard, 0, false);
        yard.stone(1, 1, 1);
        due("3 and 1", yard, 0, true, 0, 2);
        for (int wrong : new int[] {2, Integer.MAX_VALUE, Integer.MIN_VALUE}) {
            checks.dueThrows("29: index " + wrong, yard, ELEMENT, () -> yard.fillAt(0, true, wrong));
        }
    }

    private void full() {
        Copestone yard = wall(4, 4, 4, 4);
        yard.lift(0);
        yard.lay(0, true, 0);
        due("full", yard, 0, true);
        due("the other one is not", yard, 0, false, 1);
        Copestone empty = wall(4);
        lay(empty, 4, 1, 1, 0, true, 0);
        due("full, with an empty heap", empty, 0, true);
    }

    private void fewest() {
        due("one of 6", wall(6, 5, 1, 6, 3, 3), 0, true, 2);
        due("two, the longest first", wall(6, 1, 1, 4, 2, 5), 0, true, 4, 0);
        due("two though the longest does not go", wall(8, 7, 4, 4), 0, true, 1, 2);
        due("three", wall(6, 3, 1, 2), 0, true, 0, 2, 1);
        dueNone("7 of 3 and 3", wall(7, 3, 3), 0, true);
    }

    private void firstInTheHeap() {
        due("the lowest number of one size", wall(6, 3, 3, 3), 0, true, 0, 1);
        Copestone yard = wall(6, 3, 3);
        yard.stone(3, 2, 4);
        due("the greatest tail first", yard, 0, true, 2, 0);
        due("5 and 1 before 3 and 3", wall(6, 1, 3, 3, 5), 0, true, 3, 0);
        due("a later one first if it has to be", wall(9, 6, 5, 4, 2), 0, true, 1, 2);
    }

    private void onlyTwelve() {
        Copestone yard = wall(5, 9, 9, 9, 9, 9, 9, 9, 9, 9, 9, 9, 5);
        due("the twelfth", yard, 0, true, 11);
        yard.stone(8, 2, 2);
        dueNone("the thirteenth", yard, 0, true);
        yard.lift(0);
        due("the twelfth again", yard, 0, true, 11);
        for (int i = 0; i < 12; i++) {
            yard.stone(9, 1, 1);
        }
        due("other heights do not count", yard, 0, true, 11);
    }

    private void height() {
        Copestone yard = wall(4);
        yard.stone(4, 2, 1);
        yard.stone(4, 3, 1);
        yard.stone(4, 4, 1);
        yard.stone(2, 4, 1);
        due("without a height, that of the first stone", yard, 0, true, 2);
        yard.lift(0);
        yard.lay(0, false, 0);
        dueNone("the height of the course, not of the heap", yard, 0, true);
        lay(yard, 4, 3, 1, 1, false, 0);
        dueNone("nothing 1 lower", yard, 0, true);
        int last = yard.stone(4, 2, 1);
        due("of the height", yard, 0, true, last);
    }

    private void fromTheFirstFreePlace() {
        Copestone yard = wall(8, 5, 3, 2);
        yard.lift(1);
        yard.lay(0, true, 0);
        due("behind it", yard, 0, true, 0);
        Copestone holed = wall(8, 8, 3, 4, 1, 2);
        holed.lift(1);
        holed.lay(0, true, 5);
        dueNone("something lies at the end", holed, 0, true);
        Copestone middle = wall(8, 3, 5, 4);
        middle.lift(0);
        middle.lay(0, false, 2);
        dueNone("something lies in the middle", middle, 0, false);
        due("the front is free", middle, 0, true, 1, middle.stone(3, 2, 2));
    }

    private void onStone() {
        Copestone yard = wall(8, 8, 7, 1);
        dueNone("on air", yard, 1, true);
        yard.lift(1);
        yard.lay(0, true, 0);
        dueNone("on air at the last place", yard, 1, true);
        yard.lift(2);
        yard.lay(0, true, 7);
        due("on stone", yard, 1, true, 0);
        dueNone("on air in the back", yard, 1, false);
    }

    private void joints() {
        Copestone yard = wall(8, 4, 4);
        yard.lift(0);
        yard.lay(0, true, 0);
        yard.lift(1);
        yard.lay(0, true, 4);
        int five = yard.stone(5, 2, 2);
        int three = yard.stone(3, 2, 2);
        int four = yard.stone(4, 2, 2);
        int other = yard.stone(4, 2, 2);
        due("5 and 3 as 4 and 4 run up", yard, 1, true, five, three);
        yard.lift(five);
        dueNone("4 and 4 run up", yard, 1, true);
        yard.runs(2);
        due("they may", yard, 1, true, four, other);
        yard.runs(1);
        yard.throwAway();
        int two = yard.stone(2, 2, 2);
        int last = yard.stone(3, 2, 2);
        due("3, 3 and 2", yard, 1, true, three, last, two);
    }

    private void jointsBelowAndTheHand() {
        Copestone yard = new Copestone();
        yard.runs(2);
        yard.build(6, 6, 0);
        for (int course = 0; course < 2; course++) {
            lay(yard, 2, 2, 2, course, true, 0);
            lay(yard, 4, 2, 2, course, true, 2);
        }
        int two = yard.stone(2, 2, 2);
        int four = yard.stone(4, 2, 2);
        due("the joint at 2 would run up 3, that at 4 not", yard, 2, true, four, two);
        yard.lift(two);
        dueNone("the hand is not the heap", yard, 2, true);
    }

    private void tailsAndCopesAside() {
        Copestone yard = new Copestone();
        yard.build(4, 4, 0);
        yard.stone(4, 1, 3);
        yard.stone(4, 1, 4);
        yard.lift(0);
        yard.lay(0, true, 0);
        due("a through beside a stone", yard, 0, false, 1);
        yard.lift(1);
        yard.throwAway();
        lay(yard, 4, 1, 1, 0, false, 0);
        yard.lift(yard.stone(4, 1, 4));
        yard.cope();
        int last = yard.stone(4, 3, 2);
        due("below copes", yard, 1, true, last);
    }

    private void long24() {
        Copestone yard = wall(24, 1, 1, 1, 1, 2, 2, 2, 2, 3, 3, 3, 3);
        due("all twelve", yard, 0, true, 8, 9, 10, 11, 4, 5, 6, 7, 0, 1, 2, 3);
        Copestone nines = wall(24, 9, 9, 9, 6, 6, 6, 5, 1, 1);
        due("9, 9 and 6", nines, 0, true, 0, 1, 3);
    }
}
