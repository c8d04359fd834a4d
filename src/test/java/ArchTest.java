import java.util.NoSuchElementException;

/** Promises 36 to 41: arches. */
public final class ArchTest {
    private static final Class<IllegalArgumentException> ARGUMENT = IllegalArgumentException.class;
    private static final Class<IllegalStateException> STATE = IllegalStateException.class;
    private static final Class<IndexOutOfBoundsException> BOUNDS = IndexOutOfBoundsException.class;
    private static final Class<UnsupportedOperationException> UNSUPPORTED = UnsupportedOperationException.class;
    private static final Class<NoSuchElementException> ELEMENT = NoSuchElementException.class;

    private final Checks checks = new Checks();

    public static void main(String[] args) {
        ArchTest test = new ArchTest();
        test.arch();
        test.voussoir();
        test.voussoirOrder();
        test.crown();
        test.set();
        test.strike();
        test.strikeFalls();
        test.thrust();
        test.thrustWholeHeight();
        test.thrustRange();
        test.thrustOfEight();
        test.checks.end();
    }

    /** An arch of two, of the least thrust 8. */
    private static Copestone arch8() {
        Copestone yard = new Copestone();
        yard.arch(2);
        yard.voussoir(0, 10, 20, 80, 100);
        yard.voussoir(1, 10, 20, 50, 90);
        return yard;
    }

    private static Copestone archOf(int... told) {
        Copestone yard = new Copestone();
        yard.arch(told.length / 4);
        for (int i = 0; i < told.length / 4; i++) {
            yard.voussoir(i, told[4 * i], told[4 * i + 1], told[4 * i + 2], told[4 * i + 3]);
        }
        return yard;
    }

    private void arch() {
        Copestone yard = new Copestone();
        for (int wrong : new int[] {1, 9, 0, -1, Integer.MAX_VALUE, Integer.MIN_VALUE}) {
            checks.dueThrows("36: arch(" + wrong + ")", yard, ARGUMENT, () -> yard.arch(wrong));
        }
        checks.dueThrows("36: none was begun", yard, STATE, yard::set);
        checks.due("36: the least, none before", yard.arch(2), 0);
        yard.voussoir(1, 1, 1, 0, 999);
        yard.voussoir(0, 1, 1, 0, 999);
        yard.crown(5, 6);
        yard.set();
        checks.due("36: one set before", yard.arch(8), 1);
        checks.due("36: nothing is told of the new one", yard.voussoir(7, 1, 1, 0, 999), 1);
        checks.due("36: its crown", yard.crown(0, 999), 0);
        checks.due("36: none set before", yard.arch(2), 0);
        yard.voussoir(1, 1, 1, 0, 999);
        yard.voussoir(0, 1, 1, 0, 999);
        yard.set();
        yard.set();
        yard.strike();
        checks.due("36: of one that was struck", yard.arch(2), 2);
        checks.dueThrows("36: the new centre is there, the key is not set", yard, UNSUPPORTED, yard::strike);
        checks.due("36: its crown can be told", yard.crown(1, 2), 0);
    }

    private void voussoir() {
        Copestone yard = new Copestone();
        checks.dueThrows("37: no arch", yard, STATE, () -> yard.voussoir(0, 1, 1, 0, 0));
        yard.arch(3);
        checks.due("37: the least", yard.voussoir(2, 1, 1, 0, 0), 1);
        checks.due("37: the greatest", yard.voussoir(0, 99, 9999, 999, 999), 2);
        checks.due("37: told again", yard.voussoir(2, 2, 2, 0, 999), 2);
        for (int wrong : new int[] {-1, 3, 8, Integer.MAX_VALUE, Integer.MIN_VALUE}) {
            checks.dueThrows("37: index " + wrong, yard, BOUNDS, () -> yard.voussoir(wrong, 1, 1, 0, 0));
        }
        int[][] wrong = {{0, 1, 0, 0}, {100, 1, 0, 0}, {1, 0, 0, 0}, {1, 10000, 0, 0}, {1, 1, -1, 0}, {1, 1, 0, 1000},
            {1, 1, 5, 4}, {1, 1, 1000, 1000}, {Integer.MIN_VALUE, 1, 0, 0}, {1, Integer.MAX_VALUE, 0, 0}};
        for (int[] w : wrong) {
            checks.dueThrows("37: " + w[0] + " " + w[1] + " " + w[2] + " " + w[3], yard, ARGUMENT,
                    () -> yard.voussoir(1, w[0], w[1], w[2], w[3]));
        }
        checks.dueThrows("37: those told nothing", yard, UNSUPPORTED, yard::thrust);
        checks.due("37: the third", yard.voussoir(1, 1, 1, 7, 7), 3);
    }

    private void voussoirOrder() {
        Copestone yard = arch8();
        checks.dueThrows("37: no such one, out of range", yard, BOUNDS, () -> yard.voussoir(2, 0, 0, -1, -1));
        yard.set();
        checks.dueThrows("37: it is set", yard, UNSUPPORTED, () -> yard.voussoir(1, 1, 1, 0, 0));
        checks.dueThrows("37: it is set, out of range", yard, ARGUMENT, () -> yard.voussoir(1, 100, 1, 0, 0));
        checks.due("37: the key is not set", yard.voussoir(0, 10, 20, 80, 101), 2);
        yard.set();
        checks.dueThrows("37: the key is set", yard, UNSUPPORTED, () -> yard.voussoir(0, 10, 20, 80, 100));
    }

    private void crown() {
        Copestone yard = new Copestone();
        checks.dueThrows("38: no arch", yard, STATE, () -> yard.crown(0, 999));
        checks.dueThrows("38: no arch, out of range", yard, STATE, () -> yard.crown(-1, 999));
        yard.arch(2);
        checks.due("38: 0 at first", yard.crown(10, 10), 0);
        checks.due("38: the low one before", yard.crown(0, 999), 10);
        for (int[] w : new int[][] {{-1, 5}, {0, 1000}, {6, 5}, {1000, 1000}, {Integer.MIN_VALUE, 0}, {0, Integer.MAX_VALUE}}) {
            checks.dueThrows("38: " + w[0] + " " + w[1], yard, ARGUMENT, () -> yard.crown(w[0], w[1]));
        }
        checks.due("38: it stayed", yard.crown(3, 4), 0);
        yard.voussoir(0, 1, 1, 0, 999);
        yard.voussoir(1, 1, 1, 0, 999);
        yard.set();
        yard.set();
        checks.due("38: with all set", yard.crown(999, 999), 3);
        yard.strike();
        checks.dueThrows("38: the centre was struck", yard, UNSUPPORTED, () -> yard.crown(0, 999));
        checks.dueThrows("38: the centre was struck, out of range", yard, ARGUMENT, () -> yard.crown(0, 1000));
        crownCounts();
    }

    private void crownCounts() {
        Copestone yard = arch8();
        yard.crown(0, 110);
        checks.due("38: the high one counts", yard.thrust(), 10);
        yard.crown(0, 100);
        checks.due("38: a lower one", yard.thrust(), 12);
        yard.crown(0, 80);
        checks.dueThrows("38: one too low", yard, ELEMENT, yard::thrust);
        yard.crown(125, 999);
        checks.due("38: the low one counts", yard.thrust(), 8);
        yard.crown(126, 999);
        checks.dueThrows("38: one too high", yard, ELEMENT, yard::thrust);
        yard.crown(90, 110);
        checks.due("38: both", yard.thrust(), 10);
    }

    private void set() {
        Copestone yard = new Copestone();
        checks.dueThrows("39: no arch", yard, STATE, yard::set);
        yard.arch(3);
        checks.dueThrows("39: it is not told", yard, UNSUPPORTED, yard::set);
        yard.voussoir(0, 1, 1, 0, 999);
        checks.dueThrows("39: only the key is told", yard, UNSUPPORTED, yard::set);
        yard.voussoir(2, 1, 1, 0, 999);
        checks.due("39: the outermost", yard.set(), 2);
        checks.dueThrows("39: the next is not told", yard, UNSUPPORTED, yard::set);
        yard.voussoir(1, 1, 1, 0, 999);
        checks.due("39: the next", yard.set(), 1);
        checks.due("39: the key", yard.set(), 0);
        checks.dueThrows("39: all are set", yard, UNSUPPORTED, yard::set);
        yard.strike();
        checks.dueThrows("39: all are set, the centre gone", yard, UNSUPPORTED, yard::set);
    }

    private void strike() {
        Copestone yard = arch8();
        Copestone none = new Copestone();
        checks.dueThrows("40: no arch", none, STATE, none::strike);
        checks.dueThrows("40: none is set", yard, UNSUPPORTED, yard::strike);
        yard.set();
        checks.dueThrows("40: the key is not set", yard, UNSUPPORTED, yard::strike);
        yard.set();
        checks.due("40: it stands", yard.strike(), true);
        checks.dueThrows("40: it was struck", yard, UNSUPPORTED, yard::strike);
        checks.due("40: its thrust still", yard.thrust(), 8);
        checks.due("40: true", yard.isTrue(), true);
    }

    private void strikeFalls() {
        Copestone yard = archOf(5, 5, 900, 999, 5, 5, 0, 1);
        checks.due("51: with its centre it is true", yard.isTrue(), true);
        yard.set();
        yard.set();
        checks.due("40: it falls", yard.strike(), false);
        checks.dueThrows("40: there is no arch any more", yard, STATE, yard::thrust);
        checks.dueThrows("40: none to strike", yard, STATE, yard::strike);
        checks.dueThrows("40: none to tell of", yard, STATE, () -> yard.voussoir(0, 1, 1, 0, 0));
        checks.dueThrows("40: none with a crown", yard, STATE, () -> yard.crown(0, 0));
        checks.due("40: none was set", yard.arch(2), 0);
        checks.due("40: a new one is told anew", yard.voussoir(0, 1, 1, 0, 999), 1);
        checks.due("40: true", yard.isTrue(), true);
    }

    private void thrust() {
        Copestone none = new Copestone();
        checks.dueThrows("41: no arch", none, STATE, none::thrust);
        none.arch(2);
        checks.dueThrows("41: none is told", none, UNSUPPORTED, none::thrust);
        none.voussoir(1, 10, 20, 50, 90);
        checks.dueThrows("41: not all are told", none, UNSUPPORTED, none::thrust);
        none.voussoir(0, 10, 20, 80, 100);
        checks.due("41: the centre there, none set", none.thrust(), 8);
        none.crown(0, 124);
        checks.due("41: one lower at the crown", none.thrust(), 9);
        none.voussoir(1, 10, 20, 500, 900);
        checks.dueThrows("41: told again", none, ELEMENT, none::thrust);
    }

    private void thrustWholeHeight() {
        Copestone one = archOf(1, 1, 5, 5, 1, 1, 0, 999);
        checks.due("41: a moment of 1, a height without play", one.thrust(), 1);
        one.crown(0, 5);
        checks.dueThrows("41: no whole height above 5", one, ELEMENT, one::thrust);
        Copestone seven = archOf(1, 7, 5, 5, 1, 1, 0, 999);
        seven.crown(0, 11);
        checks.due("41: 7 sevenths are whole", seven.thrust(), 7);
        Copestone outer = archOf(1, 7, 0, 999, 1, 1, 5, 5);
        outer.crown(0, 19);
        checks.due("41: 15 at the second joint are 20 less 15, at 1 not", outer.thrust(), 3);
        Copestone half = archOf(1, 7, 5, 999, 1, 1, 0, 999);
        half.crown(0, 9);
        checks.due("41: 9 less 7 halves is above 5", half.thrust(), 2);
        half.crown(0, 8);
        checks.due("41: 8 less 7 thirds is above 5", half.thrust(), 3);
    }

    private void thrustRange() {
        Copestone great = archOf(99, 9999, 5, 5, 1, 1, 0, 999);
        checks.due("41: 989901 by 363, with 5 to spare for 10000 more", great.thrust(), 2727);
        great.crown(0, 100);
        checks.due("41: 989901 by 81", great.thrust(), 12221);
        great.crown(0, 85);
        checks.dueThrows("41: 989901 by 33 is beyond", great, ELEMENT, great::thrust);
        Copestone last = archOf(20, 1000, 998, 998, 1, 1, 0, 999);
        checks.due("41: 20000, the last thrust", last.thrust(), 20000);
        Copestone beyond = archOf(20, 1001, 998, 998, 1, 1, 0, 999);
        checks.dueThrows("41: beyond 20000", beyond, ELEMENT, beyond::thrust);
    }

    private void thrustOfEight() {
        Copestone yard = new Copestone();
        yard.arch(8);
        for (int i = 0; i < 8; i++) {
            yard.voussoir(i, 99, 9999, 0, 999);
        }
        checks.dueThrows("41: 36 times 989901 divided by 999", yard, ELEMENT, yard::thrust);
        for (int i = 0; i < 8; i++) {
            yard.voussoir(i, 10, 37, 0, 999);
        }
        checks.due("41: 36 times 370 divided by 999", yard.thrust(), 14);
        for (int i = 0; i < 8; i++) {
            yard.voussoir(i, 1, 1, i == 7 ? 5 : 0, i == 7 ? 5 : 999);
        }
        yard.crown(0, 13);
        checks.due("41: 36 by 6 at the outermost, by 5 is not whole", yard.thrust(), 6);
    }
}
