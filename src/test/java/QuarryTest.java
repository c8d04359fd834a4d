/** Promises 10 to 17: the quarry, days and frost. */
public final class QuarryTest {
    private static final Class<IllegalArgumentException> ARGUMENT = IllegalArgumentException.class;
    private static final Class<IllegalStateException> STATE = IllegalStateException.class;
    private static final Class<IndexOutOfBoundsException> BOUNDS = IndexOutOfBoundsException.class;
    private static final Class<UnsupportedOperationException> UNSUPPORTED = UnsupportedOperationException.class;

    private final Checks checks = new Checks();

    public static void main(String[] args) {
        QuarryTest test = new QuarryTest();
        test.quarry();
        test.newQuarryIsWhole();
        test.bed();
        test.split();
        test.fault();
        test.blocks();
        test.take();
        test.takeWrong();
        test.takeBeyondSixty();
        test.jointsPartWhatWasTaken();
        test.pass();
        test.frost();
        test.frostElsewhere();
        test.lastDayOfSap();
        test.checks.end();
    }

    private void quarry() {
        Copestone yard = new Copestone();
        for (int[] w : new int[][] {{3, 1}, {31, 1}, {4, 0}, {4, 7}, {Integer.MIN_VALUE, 1}, {30, Integer.MAX_VALUE}}) {
            checks.dueThrows("10: " + w[0] + " " + w[1], yard, ARGUMENT, () -> yard.quarry(w[0], w[1]));
        }
        checks.dueThrows("10: none was made", yard, STATE, () -> yard.bed(1));
        checks.due("10: the least, none before", yard.quarry(4, 1), 0);
        yard.bed(1);
        yard.bed(1);
        checks.due("10: the greatest, two beds before", yard.quarry(30, 6), 2);
        checks.due("10: no beds before", yard.quarry(5, 2), 0);
    }

    private void newQuarryIsWhole() {
        Copestone yard = new Copestone();
        yard.quarry(9, 3);
        yard.bed(2);
        yard.split(4);
        yard.fault(0, 5);
        yard.take(0, 0);
        yard.quarry(9, 2);
        checks.dueThrows("10: no bed is left", yard, BOUNDS, () -> yard.blocks(0));
        yard.bed(1);
        checks.due("10: one whole block", yard.blocks(0), 1);
        checks.due("10: no joint is left", yard.split(4), true);
        checks.due("10: no fault is left", yard.fault(0, 5), true);
        checks.due("10: a taken stone stays", yard.state(0), 'h');
    }

    private void bed() {
        Copestone yard = new Copestone();
        checks.dueThrows("11: no quarry", yard, STATE, () -> yard.bed(1));
        checks.dueThrows("11: no quarry, too high", yard, ARGUMENT, () -> yard.bed(5));
        yard.quarry(9, 1);
        for (int wrong : new int[] {0, 5, -1, Integer.MAX_VALUE, Integer.MIN_VALUE}) {
            checks.dueThrows("11: bed(" + wrong + ")", yard, ARGUMENT, () -> yard.bed(wrong));
        }
        yard.split(3);
        for (int i = 0; i < 6; i++) {
            checks.due("11: number", yard.bed(1 + i % 4), i);
        }
        checks.due("11: joints go through later beds too", yard.blocks(5), 2);
        checks.dueThrows("11: a seventh", yard, STATE, () -> yard.bed(1));
        checks.dueThrows("11: a wrong seventh", yard, ARGUMENT, () -> yard.bed(0));
    }

    private void split() {
        Copestone yard = new Copestone();
        checks.dueThrows("12: no quarry", yard, STATE, () -> yard.split(1));
        checks.dueThrows("12: no quarry, no place", yard, STATE, () -> yard.split(0));
        yard.quarry(12, 1);
        yard.bed(1);
        yard.bed(2);
        for (int wrong : new int[] {0, 12, -1, 32, 33, Integer.MAX_VALUE, Integer.MIN_VALUE}) {
            checks.dueThrows("12: split(" + wrong + ")", yard, ARGUMENT, () -> yard.split(wrong));
        }
        checks.due("12: first", yard.split(1), true);
        checks.due("12: again", yard.split(1), false);
        checks.due("12: last place", yard.split(11), true);
        checks.due("12: through the first bed", yard.blocks(0), 2);
        checks.due("12: through the second one", yard.blocks(1), 2);
        yard.split(6);
        checks.due("12: all parts are short enough", yard.blocks(1), 4);
    }

    private void fault() {
        Copestone yard = new Copestone();
        checks.dueThrows("13: no quarry", yard, BOUNDS, () -> yard.fault(0, 0));
        yard.quarry(9, 1);
        checks.dueThrows("13: no bed", yard, BOUNDS, () -> yard.fault(0, 0));
        yard.bed(1);
        yard.bed(1);
        for (int[] w : new int[][] {{-1, 0}, {2, 0}, {0, -1}, {0, 9}, {Integer.MAX_VALUE, 0}, {0, Integer.MIN_VALUE}, {0, 32}}) {
            checks.dueThrows("13: " + w[0] + " " + w[1], yard, BOUNDS, () -> yard.fault(w[0], w[1]));
        }
        checks.due("13: first place", yard.fault(0, 0), true);
        checks.due("13: again", yard.fault(0, 0), false);
        checks.due("13: last place", yard.fault(0, 8), true);
        checks.due("13: of another bed", yard.fault(1, 0), true);
        checks.due("13: it spoils the block", yard.blocks(0), 0);
        yard.split(1);
        yard.split(8);
        checks.due("13: only its own block", yard.blocks(0), 1);
    }

    private void blocks() {
        Copestone yard = new Copestone();
        checks.dueThrows("14: no quarry", yard, BOUNDS, () -> yard.blocks(0));
        yard.quarry(20, 1);
        yard.bed(1);
        checks.dueThrows("14: below", yard, BOUNDS, () -> yard.blocks(-1));
        checks.dueThrows("14: above", yard, BOUNDS, () -> yard.blocks(1));
        checks.due("14: too long", yard.blocks(0), 0);
        yard.split(10);
        checks.due("14: 10 are too long", yard.blocks(0), 0);
        yard.split(11);
        checks.due("14: 1 and 9 long", yard.blocks(0), 2);
        yard.fault(0, 11);
        checks.due("14: a fault", yard.blocks(0), 1);
        yard.take(0, 1);
        checks.due("14: taken", yard.blocks(0), 0);
        yard.quarry(30, 1);
        yard.bed(1);
        yard.split(21);
        checks.due("14: the last 9 of 30", yard.blocks(0), 1);
        yard.fault(0, 29);
        checks.due("14: a fault at the last place", yard.blocks(0), 0);
    }

    private void take() {
        Copestone yard = new Copestone();
        yard.quarry(12, 3);
        yard.bed(2);
        yard.bed(4);
        yard.split(4);
        checks.due("15: number", yard.take(1, 0), 0);
        checks.due("15: length", yard.size(0, 'l'), 4);
        checks.due("15: height", yard.size(0, 'h'), 4);
        checks.due("15: tail", yard.size(0, 't'), 3);
        checks.due("15: in the heap", yard.heap(0), 0);
        checks.due("15: the last block", yard.take(0, 1), 1);
        checks.due("15: its length", yard.size(1, 'l'), 8);
        checks.due("15: its height", yard.size(1, 'h'), 2);
    }

    private void takeWrong() {
        Copestone yard = new Copestone();
        checks.dueThrows("15: no quarry", yard, BOUNDS, () -> yard.take(0, 0));
        yard.quarry(20, 3);
        yard.bed(2);
        checks.dueThrows("15: too long", yard, UNSUPPORTED, () -> yard.take(0, 0));
        yard.split(5);
        yard.split(9);
        for (int[] w : new int[][] {{-1, 0}, {1, 0}, {0, -1}, {0, 3}, {0, Integer.MAX_VALUE}, {0, Integer.MIN_VALUE}}) {
            checks.dueThrows("15: " + w[0] + " " + w[1], yard, BOUNDS, () -> yard.take(w[0], w[1]));
        }
        yard.fault(0, 4);
        checks.dueThrows("15: a fault", yard, UNSUPPORTED, () -> yard.take(0, 0));
        checks.due("15: one without", yard.take(0, 1), 0);
        checks.dueThrows("15: taken", yard, UNSUPPORTED, () -> yard.take(0, 1));
        checks.due("15: none is left", yard.blocks(0), 0);
    }

    private void takeBeyondSixty() {
        Copestone yard = new Copestone();
        yard.quarry(9, 1);
        yard.bed(1);
        yard.split(4);
        yard.fault(0, 0);
        for (int i = 0; i < 60; i++) {
            yard.stone(1, 1, 1);
        }
        checks.dueThrows("15: 60 stones", yard, STATE, () -> yard.take(0, 1));
        checks.dueThrows("15: 60 stones and a fault", yard, UNSUPPORTED, () -> yard.take(0, 0));
        checks.dueThrows("15: 60 stones and no block", yard, BOUNDS, () -> yard.take(0, 2));
        checks.due("15: it is still there", yard.blocks(0), 1);
    }

    private void jointsPartWhatWasTaken() {
        Copestone yard = new Copestone();
        yard.quarry(9, 1);
        yard.bed(1);
        yard.bed(2);
        yard.split(6);
        yard.take(0, 0);
        yard.split(2);
        yard.split(4);
        checks.due("15: all parts were taken", yard.blocks(0), 1);
        checks.due("15: not in the other bed", yard.blocks(1), 4);
        for (int block = 0; block < 3; block++) {
            int number = block;
            checks.dueThrows("15: part " + block, yard, UNSUPPORTED, () -> yard.take(0, number));
        }
        checks.due("15: the block has another number now", yard.take(0, 3), 1);
        checks.due("15: its length", yard.size(1, 'l'), 3);
    }

    private void pass() {
        Copestone yard = new Copestone();
        checks.due("16: the least", yard.pass(1), 1);
        checks.due("16: the greatest", yard.pass(99), 100);
        for (int wrong : new int[] {0, 100, -1, Integer.MAX_VALUE, Integer.MIN_VALUE}) {
            checks.dueThrows("16: pass(" + wrong + ")", yard, ARGUMENT, () -> yard.pass(wrong));
        }
        checks.due("16: the day was kept", yard.pass(5), 105);
    }

    private static Copestone withBlocks(int... joints) {
        Copestone yard = new Copestone();
        yard.quarry(9, 1);
        yard.bed(1);
        for (int joint : joints) {
            yard.split(joint);
        }
        return yard;
    }

    private void frost() {
        Copestone yard = withBlocks(5, 8);
        checks.due("17: no stone", yard.frost(), 0);
        yard.take(0, 0);
        yard.take(0, 1);
        yard.take(0, 2);
        yard.stone(4, 1, 1);
        checks.due("17: three suffer", yard.frost(), 3);
        checks.due("17: half of 5", yard.size(0, 'l'), 2);
        checks.due("17: half of 3", yard.size(1, 'l'), 1);
        checks.due("17: 1 goes", yard.state(2), 'g');
        checks.due("17: the gone one keeps its length", yard.size(2, 'l'), 1);
        checks.due("17: a field stone", yard.size(3, 'l'), 4);
        checks.due("17: again", yard.frost(), 2);
        checks.due("17: half of 2", yard.size(0, 'l'), 1);
        checks.due("17: gone", yard.state(1), 'g');
        checks.due("17: the last one goes", yard.frost(), 1);
        checks.due("17: none is left", yard.frost(), 0);
        checks.due("17: the field stone is first", yard.heap(0), 3);
    }

    private void frostElsewhere() {
        Copestone yard = withBlocks(4);
        yard.take(0, 0);
        yard.take(0, 1);
        yard.build(4, 4, 0);
        yard.lift(0);
        checks.due("17: not in the hand", yard.frost(), 1);
        checks.due("17: its length", yard.size(0, 'l'), 4);
        yard.lay(0, true, 0);
        checks.due("17: not in the wall", yard.frost(), 1);
        yard.push(0, 1000);
        yard.fall();
        checks.due("17: from the wall to the heap, with sap", yard.frost(), 2);
        checks.due("17: half of it", yard.size(0, 'l'), 2);
        checks.due("17: 5, 2, 1 and gone", yard.state(1), 'g');
    }

    private void lastDayOfSap() {
        Copestone yard = withBlocks(4);
        yard.pass(3);
        yard.take(0, 0);
        yard.pass(9);
        yard.take(0, 1);
        checks.due("17: on the 9th day behind it", yard.frost(), 2);
        yard.pass(1);
        checks.due("17: one is dry", yard.frost(), 1);
        checks.due("17: the dry one", yard.size(0, 'l'), 2);
        yard.pass(9);
        checks.due("17: both are dry", yard.frost(), 0);
    }
}
