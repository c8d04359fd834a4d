/** "Gaps", "Old walls", and the promises 42 to 47. */
final class GapSentences extends Sentences {
    private static final long GREATEST = Long.MAX_VALUE;

    GapSentences(Document document) {
        super(document);
    }

    @Override
    void all() {
        ranges();
        nextOne();
        money();
        gap();
        nextGap();
        mend();
        howManyWalls();
        youngerOrOfOneTime();
        phases();
        oldWall();
        meet();
        meetThrows();
        phase();
    }

    private static void walls(Run run, int many) {
        for (int i = 0; i < many; i++) {
            run.is(i, "oldWall");
        }
    }

    private void ranges() {
        Run run = says("Gaps", "At most 10 gaps in old walls are told, each with a length, 1 to 99, and how many sheep go through, 0 to "
                + "999.");
        run.refuses(ARGUMENT, "gap", 0, 1).refuses(ARGUMENT, "gap", 100, 1).refuses(ARGUMENT, "gap", 1, -1).refuses(ARGUMENT, "gap", 1, 1000);
        run.is(1, "gap", 1, 0).is(2, "gap", 99, 999).is(3, "gap", 1, 999).is(4, "gap", 99, 0);
        for (int i = 5; i <= 10; i++) {
            run.is(i, "gap", 1, 1);
        }
        run.refuses(STATE, "gap", 1, 1).refuses(ARGUMENT, "gap", 0, 1).is(1, "nextGap").is(0, "mend", 0L).is(99, "nextGap");
        run.is(10, "gap", 1, 1).refuses(STATE, "gap", 1, 1);
    }

    private void nextOne() {
        Run run = says("Gaps", "The next one is that with the most sheep by length, of several the one that was told first.");
        run.is(1, "gap", 3, 0).is(3, "nextGap").is(2, "gap", 4, 0).is(3, "nextGap").is(3, "gap", 5, 1).is(5, "nextGap");
        run.is(4, "gap", 10, 2).is(5, "nextGap").is(5, "gap", 99, 20).is(99, "nextGap").is(6, "gap", 98, 20).is(98, "nextGap");
        run.is(7, "gap", 49, 10).is(98, "nextGap").is(8, "gap", 99, 999).is(99, "nextGap").is(9, "gap", 98, 989).is(98, "nextGap");
        run.is(10, "gap", 1, 10).is(98, "nextGap");
        int[] order = {98, 99, 1, 98, 49, 99, 5, 10, 3, 4};
        long money = 0;
        for (int length : order) {
            money += length;
            run.is(length, "nextGap").is(money, "mend", 1L);
        }
        run.refuses(ELEMENT, "nextGap").refuses(ELEMENT, "mend", 1L);
    }

    private void money() {
        Run run = says("Gaps", "To mend it brings its length times the grant, 0 to the greatest long, up to the greatest long in all.");
        run.is(1, "gap", 3, 10).is(2, "gap", 2, 10).is(3, "gap", 1, 1);
        run.is(0, "mend", 0L).is(300, "mend", 100L).is(GREATEST, "mend", GREATEST).refuses(ELEMENT, "mend", 0L);
        run.is(1, "gap", 1, 1).is(GREATEST, "mend", 0L).is(1, "gap", 1, 1).is(GREATEST, "mend", 1L).is(1, "gap", 9, 1);
        run.is(GREATEST, "mend", GREATEST);
        run = says("Gaps", "0 to the greatest long");
        run.does("gap", 1, 1);
        run.refuses(ARGUMENT, "mend", -1L).refuses(ARGUMENT, "mend", Long.MIN_VALUE).is(GREATEST, "mend", GREATEST);
        run = says("Gaps", "up to the greatest long in all");
        run.does("gap", 2, 9);
        run.does("gap", 1, 1);
        run.does("gap", 1, 0);
        run.is(GREATEST - 1, "mend", GREATEST / 2).is(GREATEST, "mend", 1L).is(GREATEST, "mend", 1L);
        run = says("Gaps", "up to the greatest long in all");
        run.does("gap", 99, 9);
        run.is(GREATEST - 7, "mend", GREATEST / 99).is(1, "gap", 3, 1).is(GREATEST - 1, "mend", 2L);
        run.is(1, "gap", 2, 1).is(GREATEST, "mend", 1L);
        run = says("Gaps", "up to the greatest long in all");
        run.does("gap", 99, 9);
        run.is(GREATEST, "mend", GREATEST / 99 + 1);
        run = says("Gaps", "up to the greatest long in all");
        run.does("gap", 2, 9);
        run.is(GREATEST, "mend", GREATEST / 2 + 1);
    }

    private void gap() {
        Run run = says(42, "Returns how many there are.");
        run.is(1, "gap", 1, 1).is(2, "gap", 1, 1).is(1, "mend", 1L).is(2, "gap", 1, 1);
        run = says(42, "Throws `IllegalArgumentException` if a number is out of range");
        int[][] wrong = {{0, 1}, {100, 1}, {1, -1}, {1, 1000}, {-1, 1}, {LEAST, 1}, {MOST, 1}, {1, LEAST}, {1, MOST}, {0, 1000}};
        for (int[] w : wrong) {
            run.refuses(ARGUMENT, "gap", w[0], w[1]);
        }
        for (int i = 1; i <= 10; i++) {
            run.is(i, "gap", 99, 999);
        }
        for (int[] w : wrong) {
            run.refuses(ARGUMENT, "gap", w[0], w[1]);
        }
        run = says(42, "Throws `IllegalStateException` if there are 10");
        for (int i = 1; i <= 10; i++) {
            run.is(i, "gap", i, 999 - i);
        }
        run.refuses(STATE, "gap", 1, 0).refuses(STATE, "gap", 1, 999).is(1, "nextGap");
    }

    private void nextGap() {
        Run run = says(43, "Returns the length.");
        run.is(1, "gap", 99, 1).is(99, "nextGap").is(99, "nextGap");
        run = says(43, "Throws `NoSuchElementException` if there is none");
        run.refuses(ELEMENT, "nextGap").is(1, "gap", 1, 0).is(1, "nextGap").is(0, "mend", 0L).refuses(ELEMENT, "nextGap");
    }

    private void mend() {
        Run run = says(44, "- `grant`: the grant for each length, from 0");
        run.does("gap", 5, 1);
        run.refuses(ARGUMENT, "mend", -1L).is(0, "mend", 0L);
        run = says(44, "Returns the money in all.");
        run.is(1, "gap", 5, 1).is(2, "gap", 7, 9).is(70, "mend", 10L).is(120, "mend", 10L);
        run = says(44, "Throws `IllegalArgumentException` if it is below 0");
        run.refuses(ARGUMENT, "mend", -1L).refuses(ARGUMENT, "mend", Long.MIN_VALUE);
        run.does("gap", 5, 1);
        run.refuses(ARGUMENT, "mend", -1L).refuses(ARGUMENT, "mend", Long.MIN_VALUE).is(5, "mend", 1L);
        run = says(44, "Throws `NoSuchElementException` if there is none");
        run.refuses(ELEMENT, "mend", 0L).refuses(ELEMENT, "mend", GREATEST).is(1, "gap", 5, 1).is(5, "mend", 1L);
        run.refuses(ELEMENT, "mend", 1L);
    }

    private void howManyWalls() {
        Run run = says("Old walls", "At most 8 are numbered from 0.");
        run.refuses(BOUNDS, "phase", 0);
        walls(run, 8);
        run.refuses(STATE, "oldWall").is(1, "phase", 0).is(1, "phase", 7).refuses(BOUNDS, "phase", 8).refuses(BOUNDS, "phase", -1);
    }

    private void youngerOrOfOneTime() {
        Run run = says("Old walls", "One that butts another one is younger, two that are bonded are of one time.");
        walls(run, 4);
        run.is(2, "meet", 0, 1, false).is(1, "phase", 1).is(2, "meet", 2, 0, true).is(2, "phase", 2).is(1, "phase", 3);
        run.refuses(UNSUPPORTED, "meet", 1, 0, false).refuses(UNSUPPORTED, "meet", 1, 2, false);
        run.refuses(UNSUPPORTED, "meet", 0, 2, false).refuses(UNSUPPORTED, "meet", 2, 0, false);
        run.refuses(UNSUPPORTED, "meet", 0, 1, true).refuses(UNSUPPORTED, "meet", 1, 2, true);
        run.is(2, "meet", 0, 1, false).is(2, "meet", 0, 2, true).is(1, "meet", 3, 1, true).is(2, "meet", 2, 3, false);
    }

    private void phases() {
        Run run = says("Old walls", "The phase of a wall is 1 more than the greatest phase of those to which it, or one of its time, is "
                + "younger, and 1 without such.");
        walls(run, 8);
        run.is(1, "phase", 0).is(2, "meet", 1, 0, false).is(3, "meet", 2, 1, false).is(2, "meet", 3, 0, false);
        run.is(4, "meet", 3, 2, false).is(4, "meet", 3, 1, false).is(1, "phase", 0).is(4, "meet", 4, 3, true).is(5, "meet", 5, 4, false);
        run.is(5, "meet", 6, 5, true).is(6, "meet", 7, 6, false).is(1, "phase", 0).is(2, "phase", 1).is(5, "phase", 6);
        run = says("Old walls", "those to which it, or one of its time, is younger");
        walls(run, 5);
        run.is(1, "meet", 0, 1, true).is(1, "meet", 1, 2, true).is(2, "meet", 2, 3, false).is(2, "phase", 0).is(2, "phase", 1);
        run.is(3, "meet", 4, 0, false).is(1, "phase", 3);
        run = says("Old walls", "1 more than the greatest phase");
        walls(run, 8);
        for (int i = 7; i > 0; i--) {
            run.is(2, "meet", i, i - 1, false);
        }
        for (int i = 0; i < 8; i++) {
            run.is(i + 1, "phase", i);
        }
        run.refuses(UNSUPPORTED, "meet", 0, 7, false).refuses(UNSUPPORTED, "meet", 7, 0, true).is(8, "meet", 7, 0, false);
    }

    private void oldWall() {
        says(45, "Returns its number.").is(0, "oldWall").is(1, "oldWall");
        Run run = says(45, "Throws `IllegalStateException` if there are 8");
        walls(run, 8);
        run.refuses(STATE, "oldWall").is(2, "meet", 7, 6, false).refuses(STATE, "oldWall");
    }

    private void meet() {
        Run run = says(46, "Returns the phase of the first one then.");
        walls(run, 3);
        run.is(2, "meet", 0, 1, false).is(3, "meet", 2, 0, false).is(2, "meet", 0, 1, false);
        run = says(46, "Returns the phase of the first one then.");
        walls(run, 4);
        run.is(1, "meet", 0, 1, true).is(2, "meet", 2, 3, false).is(2, "meet", 1, 2, true).is(2, "phase", 0);
    }

    private void meetThrows() {
        Run run = says(46, "Throws `IndexOutOfBoundsException` if there is no such wall, for either");
        run.refuses(BOUNDS, "meet", 0, 1, true).refuses(BOUNDS, "meet", 0, 0, true);
        walls(run, 2);
        for (int wrong : new int[] {-1, 2, 8, LEAST, MOST, 31, 32}) {
            run.refuses(BOUNDS, "meet", wrong, 0, false).refuses(BOUNDS, "meet", 0, wrong, false);
            run.refuses(BOUNDS, "meet", wrong, 1, true).refuses(BOUNDS, "meet", 1, wrong, true);
            run.refuses(BOUNDS, "meet", wrong, wrong, true).refuses(BOUNDS, "meet", wrong, wrong, false);
        }
        run.is(2, "meet", 1, 0, false);
        run = says(46, "Throws `IllegalArgumentException` if both are the same");
        walls(run, 8);
        for (int wall = 0; wall < 8; wall += 7) {
            run.refuses(ARGUMENT, "meet", wall, wall, true).refuses(ARGUMENT, "meet", wall, wall, false);
        }
        run = says(46, "Throws `UnsupportedOperationException` if a wall would be younger than itself");
        walls(run, 6);
        run.is(2, "meet", 1, 0, false).is(3, "meet", 2, 1, false).is(3, "meet", 3, 2, true);
        run.refuses(UNSUPPORTED, "meet", 0, 1, false).refuses(UNSUPPORTED, "meet", 0, 2, false);
        run.refuses(UNSUPPORTED, "meet", 0, 3, false).refuses(UNSUPPORTED, "meet", 2, 3, false);
        run.refuses(UNSUPPORTED, "meet", 3, 2, false).refuses(UNSUPPORTED, "meet", 0, 1, true);
        run.refuses(UNSUPPORTED, "meet", 1, 0, true).refuses(UNSUPPORTED, "meet", 0, 3, true).refuses(UNSUPPORTED, "meet", 3, 0, true);
        run.is(1, "meet", 4, 5, true).is(4, "meet", 5, 3, false).refuses(UNSUPPORTED, "meet", 0, 4, false);
        run.refuses(UNSUPPORTED, "meet", 4, 0, true).refuses(UNSUPPORTED, "meet", 1, 4, true).is(4, "meet", 4, 0, false);
        run.is(3, "meet", 3, 0, false);
        int[][] rings = {{0, 1, 2}, {1, 2, 0}, {2, 0, 1}, {0, 2, 1}, {2, 1, 0}, {1, 0, 2}, {7, 0, 6}, {0, 7, 6}, {6, 7, 0}};
        for (int[] ring : rings) {
            run = says(46, "if a wall would be younger than itself");
            walls(run, 8);
            run.is(2, "meet", ring[0], ring[1], false).is(2, "meet", ring[1], ring[2], false).is(3, "phase", ring[0]);
            run.refuses(UNSUPPORTED, "meet", ring[2], ring[0], false).refuses(UNSUPPORTED, "meet", ring[2], ring[0], true);
            run.refuses(UNSUPPORTED, "meet", ring[0], ring[2], true).is(3, "meet", ring[0], ring[2], false);
        }
    }

    private void phase() {
        says(47, "Returns the phase.").is(0, "oldWall").is(1, "oldWall").is(2, "meet", 0, 1, false).is(2, "phase", 0).is(1, "phase", 1);
        Run run = says(47, "Throws `IndexOutOfBoundsException` if there is no such wall");
        run.refuses(BOUNDS, "phase", 0);
        walls(run, 2);
        for (int wrong : new int[] {-1, 2, 8, LEAST, MOST}) {
            run.refuses(BOUNDS, "phase", wrong);
        }
        run.is(1, "phase", 1);
    }
}
