import java.util.NoSuchElementException;

/** Promises 1 to 9: a new yard, stones, the heap, the hand and the banker. */
public final class StonesTest {
    private static final Class<IllegalArgumentException> ARGUMENT = IllegalArgumentException.class;
    private static final Class<IllegalStateException> STATE = IllegalStateException.class;
    private static final Class<IndexOutOfBoundsException> BOUNDS = IndexOutOfBoundsException.class;
    private static final Class<UnsupportedOperationException> UNSUPPORTED = UnsupportedOperationException.class;
    private static final Class<NoSuchElementException> ELEMENT = NoSuchElementException.class;

    private final Checks checks = new Checks();

    public static void main(String[] args) {
        StonesTest test = new StonesTest();
        test.newYardIsEmpty();
        test.stone();
        test.stoneOfWrongSize();
        test.stoneBeyondSixty();
        test.state();
        test.size();
        test.heapOrder();
        test.heapAfterChanges();
        test.lift();
        test.throwAway();
        test.dress();
        test.dressOrder();
        test.whet();
        test.checks.end();
    }

    private void newYardIsEmpty() {
        Copestone yard = new Copestone();
        checks.dueThrows("1: state(0)", yard, BOUNDS, () -> yard.state(0));
        checks.dueThrows("1: heap(0)", yard, ELEMENT, () -> yard.heap(0));
        checks.dueThrows("1: throwAway()", yard, STATE, yard::throwAway);
        checks.dueThrows("1: width(0)", yard, STATE, () -> yard.width(0));
        checks.dueThrows("1: split(1)", yard, STATE, () -> yard.split(1));
        checks.dueThrows("1: set()", yard, STATE, yard::set);
        checks.dueThrows("1: nextGap()", yard, ELEMENT, yard::nextGap);
        checks.dueThrows("1: phase(0)", yard, BOUNDS, () -> yard.phase(0));
        checks.due("1: isTrue()", yard.isTrue(), true);
        Copestone other = new Copestone();
        other.stone(1, 1, 1);
        checks.dueThrows("1: a stone of another yard", yard, BOUNDS, () -> yard.state(0));
    }

    private void stone() {
        Copestone yard = new Copestone();
        checks.due("2: the least", yard.stone(1, 1, 1), 0);
        checks.due("2: the greatest", yard.stone(9, 4, 6), 1);
        checks.due("2: length", yard.size(1, 'l'), 9);
        checks.due("2: height", yard.size(1, 'h'), 4);
        checks.due("2: tail", yard.size(1, 't'), 6);
        checks.due("2: in the heap", yard.state(1), 'h');
        checks.due("2: a field stone has no sap", yard.frost(), 0);
    }

    private void stoneOfWrongSize() {
        Copestone yard = new Copestone();
        int[][] wrong = {{0, 1, 1}, {10, 1, 1}, {1, 0, 1}, {1, 5, 1}, {1, 1, 0}, {1, 1, 7}, {-1, 2, 2},
            {Integer.MAX_VALUE, 1, 1}, {1, Integer.MIN_VALUE, 1}, {1, 1, Integer.MAX_VALUE}};
        for (int[] w : wrong) {
            checks.dueThrows("2: " + w[0] + " " + w[1] + " " + w[2], yard, ARGUMENT, () -> yard.stone(w[0], w[1], w[2]));
        }
        checks.due("2: the number behind them", yard.stone(1, 1, 1), 0);
    }

    private void stoneBeyondSixty() {
        Copestone yard = new Copestone();
        for (int i = 0; i < 60; i++) {
            checks.due("2: number " + i, yard.stone(1 + i % 9, 1 + i % 4, 1 + i % 6), i);
        }
        checks.dueThrows("2: the 61st", yard, STATE, () -> yard.stone(1, 1, 1));
        checks.dueThrows("2: a wrong 61st", yard, ARGUMENT, () -> yard.stone(10, 1, 1));
        yard.lift(0);
        yard.throwAway();
        checks.dueThrows("2: a gone stone counts", yard, STATE, () -> yard.stone(1, 1, 1));
    }

    private void state() {
        Copestone yard = new Copestone();
        yard.build(4, 4, 0);
        yard.stone(4, 2, 1);
        yard.stone(4, 2, 1);
        yard.stone(1, 1, 1);
        yard.stone(2, 1, 4);
        yard.stone(1, 1, 2);
        checks.due("3: heap", yard.state(0), 'h');
        yard.lift(0);
        checks.due("3: hand", yard.state(0), 'n');
        yard.lay(0, true, 0);
        checks.due("3: wall", yard.state(0), 'w');
        yard.lift(1);
        yard.lay(0, false, 0);
        yard.lift(2);
        yard.pack(0);
        checks.due("3: packed", yard.state(2), 'p');
        yard.lift(3);
        yard.cope();
        checks.due("3: cope", yard.state(3), 'c');
        yard.lift(4);
        yard.throwAway();
        checks.due("3: gone", yard.state(4), 'g');
        yard.build(4, 4, 0);
        checks.due("3: laid in a wall that is gone", yard.state(0), 'g');
        for (int wrong : new int[] {-1, 5, 60, Integer.MIN_VALUE, Integer.MAX_VALUE}) {
            checks.dueThrows("3: state(" + wrong + ")", yard, BOUNDS, () -> yard.state(wrong));
        }
    }

    private void size() {
        Copestone yard = new Copestone();
        yard.stone(3, 2, 4);
        checks.due("4: l", yard.size(0, 'l'), 3);
        checks.due("4: h", yard.size(0, 'h'), 2);
        checks.due("4: t", yard.size(0, 't'), 4);
        checks.due("4: w", yard.size(0, 'w'), 120);
        for (char wrong : new char[] {'v', 'L', 0, 'x', (char) 65535}) {
            checks.dueThrows("4: size " + (int) wrong, yard, ARGUMENT, () -> yard.size(0, wrong));
        }
        for (int wrong : new int[] {-1, 1, 60}) {
            checks.dueThrows("4: stone " + wrong, yard, BOUNDS, () -> yard.size(wrong, 'l'));
            checks.dueThrows("4: both wrong, " + wrong, yard, BOUNDS, () -> yard.size(wrong, 'x'));
        }
    }

    private void heapOrder() {
        Copestone yard = new Copestone();
        yard.stone(2, 1, 6);
        yard.stone(3, 1, 1);
        yard.stone(1, 2, 1);
        yard.stone(3, 1, 2);
        yard.stone(3, 1, 2);
        yard.stone(2, 1, 6);
        int[] order = {2, 3, 4, 1, 0, 5};
        for (int i = 0; i < order.length; i++) {
            checks.due("5: heap(" + i + ")", yard.heap(i), order[i]);
        }
        for (int wrong : new int[] {-1, 6, 60, Integer.MAX_VALUE, Integer.MIN_VALUE}) {
            checks.dueThrows("5: heap(" + wrong + ")", yard, ELEMENT, () -> yard.heap(wrong));
        }
    }

    private void heapAfterChanges() {
        Copestone yard = new Copestone();
        yard.quarry(9, 2);
        yard.bed(2);
        yard.take(0, 0);
        yard.stone(5, 2, 1);
        yard.stone(4, 2, 2);
        checks.due("5: the longest first", yard.heap(0), 0);
        yard.frost();
        checks.due("5: first behind the frost", yard.heap(0), 1);
        checks.due("5: equal sizes, the lowest number", yard.heap(1), 0);
        checks.due("5: equal sizes, the other", yard.heap(2), 2);
        yard.lift(1);
        checks.due("5: first without the lifted one", yard.heap(0), 0);
        checks.dueThrows("5: the third is in the hand", yard, ELEMENT, () -> yard.heap(2));
    }

    private void lift() {
        Copestone yard = new Copestone();
        for (int i = 0; i < 3; i++) {
            yard.stone(1, 1, 1);
        }
        checks.due("6: left in the heap", yard.lift(1), 2);
        checks.dueThrows("6: another one in the hand", yard, STATE, () -> yard.lift(0));
        checks.dueThrows("6: the one in the hand", yard, UNSUPPORTED, () -> yard.lift(1));
        for (int wrong : new int[] {-1, 3, Integer.MIN_VALUE, Integer.MAX_VALUE}) {
            checks.dueThrows("6: lift(" + wrong + ")", yard, BOUNDS, () -> yard.lift(wrong));
        }
        yard.throwAway();
        checks.dueThrows("6: a gone one", yard, UNSUPPORTED, () -> yard.lift(1));
        checks.due("6: the next", yard.lift(2), 1);
        checks.dueThrows("6: a gone one, with a full hand", yard, UNSUPPORTED, () -> yard.lift(1));
    }

    private void throwAway() {
        Copestone yard = new Copestone();
        yard.stone(1, 1, 1);
        yard.stone(2, 1, 1);
        checks.dueThrows("7: an empty hand", yard, STATE, yard::throwAway);
        yard.lift(1);
        checks.due("7: the stone", yard.throwAway(), 1);
        checks.due("7: gone", yard.state(1), 'g');
        checks.due("7: it keeps its length", yard.size(1, 'l'), 2);
        checks.dueThrows("7: once more", yard, STATE, yard::throwAway);
        checks.due("7: the hand is free", yard.lift(0), 0);
    }

    private void dress() {
        Copestone yard = new Copestone();
        yard.stone(9, 4, 6);
        yard.lift(0);
        checks.due("8: paid", yard.dress(0, 'l', 2), 6);
        checks.due("8: length", yard.size(0, 'l'), 7);
        checks.due("8: paid to another", yard.dress(3, 'h', 3), 9);
        checks.due("8: height, 1 is left", yard.size(0, 'h'), 1);
        checks.due("8: paid in all", yard.dress(0, 't', 1), 9);
        checks.due("8: tail", yard.size(0, 't'), 5);
        checks.dueThrows("8: nothing left", yard, UNSUPPORTED, () -> yard.dress(0, 'h', 1));
        checks.dueThrows("8: less than nothing left", yard, UNSUPPORTED, () -> yard.dress(0, 't', 5));
        checks.dueThrows("8: far too much", yard, UNSUPPORTED, () -> yard.dress(0, 't', Integer.MAX_VALUE));
        checks.due("8: the edge is 6 now, all of it", yard.dress(0, 'l', 6), 27);
        checks.dueThrows("8: no edge", yard, UNSUPPORTED, () -> yard.dress(0, 't', 1));
        yard.whet();
        checks.due("8: 1 tail is left", yard.dress(2, 't', 4), 12);
        yard.throwAway();
        yard.stone(9, 4, 6);
        yard.lift(1);
        yard.dress(1, 'l', 7);
        checks.dueThrows("8: the edge is 1", yard, UNSUPPORTED, () -> yard.dress(1, 't', 2));
        checks.due("8: the last of the edge", yard.dress(1, 't', 1), 24);
    }

    private void dressOrder() {
        Copestone yard = new Copestone();
        yard.stone(5, 4, 6);
        checks.dueThrows("8: an empty hand", yard, STATE, () -> yard.dress(0, 'l', 1));
        checks.dueThrows("8: an empty hand, far too much", yard, STATE, () -> yard.dress(0, 'l', 99));
        checks.dueThrows("8: no size, an empty hand", yard, ARGUMENT, () -> yard.dress(0, 'w', 1));
        checks.dueThrows("8: no mason, no size, an empty hand", yard, BOUNDS, () -> yard.dress(4, 'w', 0));
        yard.lift(0);
        for (int wrong : new int[] {-1, 4, Integer.MIN_VALUE, Integer.MAX_VALUE}) {
            checks.dueThrows("8: mason " + wrong, yard, BOUNDS, () -> yard.dress(wrong, 'l', 1));
        }
        for (int wrong : new int[] {0, -1, Integer.MIN_VALUE}) {
            checks.dueThrows("8: by " + wrong, yard, ARGUMENT, () -> yard.dress(0, 'l', wrong));
        }
        checks.dueThrows("8: the weight", yard, ARGUMENT, () -> yard.dress(0, 'w', 1));
        checks.due("8: nobody was paid before", yard.dress(0, 'l', 1), 3);
        checks.due("8: the edge behind it", yard.whet(), 11);
    }

    private void whet() {
        Copestone yard = new Copestone();
        checks.due("9: at first", yard.whet(), 12);
        yard.stone(9, 4, 6);
        yard.lift(0);
        yard.dress(0, 'l', 5);
        checks.due("9: used", yard.whet(), 7);
        checks.due("9: sharp again", yard.whet(), 12);
    }
}
