/** "Filling", and the promises 28 and 29. */
final class FillingSentences extends Sentences {
    FillingSentences(Document document) {
        super(document);
    }

    @Override
    void all() {
        ofTheHeight();
        firstTwelve();
        someOrder();
        fromTheFirstFreePlace();
        belowFull();
        joints();
        jointsAtTheEnds();
        jointsOfOtherCourses();
        nothingElse();
        fewest();
        firstInTheHeap();
        withoutHeight();
        fill();
        fillAt();
        fillAtThrows();
    }

    private static void due(Run run, int course, boolean isFront, int... stones) {
        run.is(stones.length, "fill", course, isFront);
        for (int i = 0; i < stones.length; i++) {
            run.is(stones[i], "fillAt", course, isFront, i);
        }
        run.refuses(ELEMENT, "fillAt", course, isFront, -1).refuses(ELEMENT, "fillAt", course, isFront, stones.length);
    }

    private static void dueNone(Run run, int course, boolean isFront) {
        run.refuses(ELEMENT, "fill", course, isFront).refuses(ELEMENT, "fillAt", course, isFront, 0);
    }

    private static void heap(Run run, int... lengths) {
        for (int length : lengths) {
            run.does("stone", length, 2, 1);
        }
    }

    private void ofTheHeight() {
        Run run = says("Filling", "A skin of a course can be filled if the stones of the heap that have the height of the course");
        run.does("build", 4, 4, 0);
        run.lay(4, 2, 1, 0, true, 0);
        dueNone(run, 0, false);
        run.does("stone", 4, 3, 1);
        run.does("stone", 4, 1, 1);
        dueNone(run, 0, false);
        run.does("stone", 4, 2, 1);
        due(run, 0, false, 3);
    }

    private void firstTwelve() {
        Run run = says("Filling", "the first 12 of these in order");
        run.does("build", 5, 4, 0);
        run.does("stone", 1, 3, 1);
        run.lay(1, 2, 1, 0, false, 0);
        for (int i = 0; i < 11; i++) {
            run.does("stone", 9, 2, 1);
        }
        int fits = 13;
        run.does("stone", 5, 2, 1);
        due(run, 0, true, fits);
        run.does("stone", 9, 2, 1);
        dueNone(run, 0, true);
        run.does("lift", 2);
        due(run, 0, true, fits);
        run.does("stone", 9, 1, 1);
        run.does("stone", 9, 3, 1);
        due(run, 0, true, fits);
        run = says("Filling", "the first 12 of these");
        run.does("build", 24, 4, 0);
        heap(run, 2, 2, 2, 2, 2, 2, 2, 2, 2, 2, 2, 2);
        due(run, 0, true, 0, 1, 2, 3, 4, 5, 6, 7, 8, 9, 10, 11);
        heap(run, 1, 1);
        run.does("lift", 11);
        dueNone(run, 0, true);
    }

    private void someOrder() {
        Run run = says("Filling", "can be laid in some order from the left on");
        run.does("build", 6, 6, 0);
        run.lay(2, 2, 1, 0, true, 0);
        run.lay(4, 2, 1, 0, true, 2);
        heap(run, 4, 2);
        due(run, 1, true, 2, 3);
        run.does("build", 6, 6, 0);
        run.lay(4, 2, 1, 0, true, 0);
        run.lay(2, 2, 1, 0, true, 4);
        due(run, 1, true, 3, 2);
    }

    private void fromTheFirstFreePlace() {
        Run run = says("Filling", "from the first place on at which nothing lies, up to the end");
        run.does("build", 6, 6, 0);
        run.lay(2, 2, 1, 0, true, 0);
        heap(run, 6, 5, 4, 3);
        due(run, 0, true, 3);
        due(run, 0, false, 1);
        run.lay(3, 2, 1, 0, true, 2);
        dueNone(run, 0, true);
        heap(run, 1);
        due(run, 0, true, 6);
        run.does("lift", 6);
        run.does("lay", 0, true, 5);
        due(run, 0, true);
        run = says("Filling", "up to the end");
        run.does("build", 6, 6, 0);
        heap(run, 7, 5);
        dueNone(run, 0, true);
        heap(run, 6);
        due(run, 0, true, 2);
        run = says("Filling", "all behind that place must be free");
        run.does("build", 6, 6, 0);
        run.lay(1, 2, 1, 0, true, 5);
        heap(run, 5, 6);
        dueNone(run, 0, true);
        run.does("build", 6, 6, 0);
        run.lay(1, 2, 1, 0, true, 1);
        heap(run, 1, 4);
        dueNone(run, 0, true);
    }

    private void belowFull() {
        Run run = says("Filling", "and below, if there is a course, be full");
        run.does("build", 6, 6, 0);
        heap(run, 6);
        due(run, 0, true, 0);
        dueNone(run, 1, true);
        run.lay(5, 2, 1, 0, true, 0);
        dueNone(run, 1, true);
        run.lay(1, 2, 1, 0, true, 5);
        due(run, 1, true, 0);
        dueNone(run, 1, false);
        dueNone(run, 2, true);
        dueNone(run, 7, true);
        run.does("build", 6, 6, 0);
        run.lay(5, 2, 1, 0, true, 1);
        dueNone(run, 1, true);
    }

    private void joints() {
        Run run = says("Filling", "no joint of what is laid in this skin may run up too far");
        run.does("build", 6, 6, 0);
        run.lay(3, 2, 1, 0, true, 0);
        run.lay(3, 2, 1, 0, true, 3);
        heap(run, 3, 3);
        dueNone(run, 1, true);
        due(run, 0, false, 2, 3);
        heap(run, 2);
        dueNone(run, 1, true);
        heap(run, 1);
        due(run, 1, true, 4, 2, 5);
        run.is(1, "runs", 2);
        due(run, 1, true, 2, 3);
        run.does("lift", 2);
        run.does("lay", 1, true, 0);
        run.does("lift", 3);
        run.does("lay", 1, true, 3);
        heap(run, 3, 3);
        due(run, 2, true, 4, 6, 5);
        run.does("runs", 3);
        due(run, 2, true, 6, 7);
    }

    private void jointsAtTheEnds() {
        for (boolean isFront : new boolean[] {true, false}) {
            Run run = says("Filling", "no joint of what is laid in this skin may run up too far");
            run.does("build", 6, 6, 0);
            run.lay(1, 2, 1, 0, isFront, 0);
            run.lay(4, 2, 1, 0, isFront, 1);
            run.lay(1, 2, 1, 0, isFront, 5);
            heap(run, 5, 1);
            dueNone(run, 1, isFront);
            due(run, 0, !isFront, 3, 4);
            heap(run, 4, 2);
            due(run, 1, isFront, 5, 6);
            run.does("runs", 2);
            due(run, 1, isFront, 3, 4);
        }
    }

    private void jointsOfOtherCourses() {
        Run run = says("Filling", "with the courses below and above as they are");
        run.does("build", 8, 6, 0);
        run.lay(4, 2, 1, 0, true, 0);
        run.lay(3, 2, 1, 1, true, 0);
        heap(run, 3, 1);
        due(run, 0, true, 2, 3);
        run.lay(4, 2, 1, 0, true, 4);
        heap(run, 5, 4);
        due(run, 1, true, 5);
        run.does("lift", 5);
        due(run, 1, true, 6, 3);
        run.does("throwAway");
        run.does("lift", 6);
        dueNone(run, 1, true);
        run = says("Filling", "with the courses below and above as they are");
        run.does("runs", 2);
        run.does("build", 6, 6, 0);
        for (int course = 0; course < 2; course++) {
            run.lay(4, 2, 1, course, true, 0);
            run.lay(2, 2, 1, course, true, 4);
        }
        heap(run, 4, 2);
        due(run, 2, true, 5, 4);
    }

    private void nothingElse() {
        Run run = says("Filling", "so that nothing is refused but for joints and lengths looked at");
        run.does("build", 4, 4, 0);
        run.lay(4, 2, 3, 0, true, 0);
        run.does("stone", 4, 2, 2);
        due(run, 0, false, 1);
        run.does("lift", 1);
        run.refuses(UNSUPPORTED, "lay", 0, false, 0);
        run = says("Filling", "throughs are taken as others, copes do not matter");
        run.does("build", 4, 4, 0);
        run.lay(4, 2, 2, 0, true, 0);
        run.does("stone", 4, 2, 6);
        due(run, 0, false, 1);
        run.lay(4, 2, 2, 0, false, 0);
        run.cope(4, 1, 4);
        due(run, 1, true, 1);
        due(run, 1, false, 1);
        run.does("lift", 1);
        run.refuses(UNSUPPORTED, "lay", 1, true, 0);
    }

    private void fewest() {
        Run run = says("Filling", "The filling is that of the fewest stones");
        run.does("build", 6, 6, 0);
        heap(run, 1, 2, 3);
        due(run, 0, true, 2, 1, 0);
        heap(run, 3);
        due(run, 0, true, 2, 3);
        heap(run, 5);
        due(run, 0, true, 4, 0);
        heap(run, 6);
        due(run, 0, true, 5);
    }

    private void firstInTheHeap() {
        Run run = says("Filling", "of several that whose first stone comes first in the heap, then the next");
        run.does("build", 6, 6, 0);
        heap(run, 3, 2, 4, 3, 5, 1);
        due(run, 0, true, 4, 5);
        run.does("lift", 4);
        due(run, 0, true, 2, 1);
        run.does("throwAway");
        run.does("lift", 2);
        due(run, 0, true, 0, 3);
        run.does("throwAway");
        run.does("stone", 3, 2, 5);
        due(run, 0, true, 6, 0);
        run = says("Filling", "then the next");
        run.does("build", 9, 6, 0);
        heap(run, 4, 1, 3, 2, 4, 3);
        due(run, 0, true, 0, 4, 1);
        run = says("Filling", "then the next");
        run.does("build", 9, 6, 0);
        heap(run, 3, 3, 4, 2);
        due(run, 0, true, 2, 0, 3);
    }

    private void withoutHeight() {
        Run run = says("Filling", "If the course has no height, that of the first stone of the heap is taken.");
        run.does("build", 4, 4, 0);
        dueNone(run, 0, true);
        run.does("stone", 4, 2, 1);
        due(run, 0, true, 0);
        run.does("stone", 3, 3, 1);
        dueNone(run, 0, true);
        run.does("stone", 1, 3, 1);
        due(run, 0, true, 1, 2);
        run.does("lift", 1);
        dueNone(run, 0, true);
        run.does("lay", 0, false, 0);
        due(run, 0, false, 2);
        run.does("lift", 2);
        dueNone(run, 0, true);
        run.does("throwAway");
        run.does("push", 0, 1000L);
        run.is(1, "fall");
        dueNone(run, 0, true);
    }

    private void fill() {
        Run run = says(28, "- `course`: the course, from 0");
        run.does("build", 4, 4, 0);
        heap(run, 4);
        run.refuses(BOUNDS, "fill", -1, true).is(1, "fill", 0, true);
        run = says(28, "Returns how many, 0 if it is full.");
        run.does("build", 4, 4, 0);
        run.lay(4, 1, 1, 0, true, 0);
        run.is(0, "fill", 0, true).refuses(ELEMENT, "fill", 0, false);
        heap(run, 2, 2);
        run.is(0, "fill", 0, true).refuses(ELEMENT, "fill", 0, false);
        run.stones(4, 1, 1, 1);
        run.is(4, "fill", 0, false);
        run.lay(4, 1, 1, 1, true, 0);
        run.is(0, "fill", 0, true);
        run = says(28, "Returns how many, 0 if it is full.");
        run.does("build", 4, 4, 0);
        run.lay(4, 1, 4, 0, true, 0);
        run.cope(4, 1, 4);
        run.is(0, "fill", 0, true).is(0, "fill", 0, false).refuses(ELEMENT, "fill", 1, true);
        run = says(28, "Throws `IllegalStateException` if there is no wall");
        heap(run, 4);
        run.refuses(STATE, "fill", 0, true).refuses(STATE, "fill", -1, true).refuses(STATE, "fill", 8, false);
        run = says(28, "Throws `IndexOutOfBoundsException` if the course cannot be: it is below 0, above 7, or its width would be "
                + "below 2");
        for (int[] wall : new int[][] {{4, 0, 8}, {8, 1, 7}, {9, 1, 8}, {7, 2, 3}}) {
            run.does("build", 4, wall[0], wall[1]);
            run.refuses(ELEMENT, "fill", wall[2] - 1, true);
            for (int wrong : new int[] {wall[2], -1, 8, LEAST, MOST}) {
                run.refuses(BOUNDS, "fill", wrong, true).refuses(BOUNDS, "fill", wrong, false);
            }
        }
        run = says(28, "Throws `NoSuchElementException` if it cannot be filled");
        run.does("build", 4, 4, 0);
        run.refuses(ELEMENT, "fill", 0, true).refuses(ELEMENT, "fill", 7, false);
        heap(run, 3);
        run.refuses(ELEMENT, "fill", 0, true);
        heap(run, 5);
        run.refuses(ELEMENT, "fill", 0, true);
        heap(run, 1);
        run.is(2, "fill", 0, true);
    }

    private void fillAt() {
        Run run = says(29, "- `course`: the course, from 0");
        run.does("build", 4, 4, 0);
        heap(run, 4);
        run.refuses(BOUNDS, "fillAt", -1, true, 0).is(0, "fillAt", 0, true, 0);
        run = says(29, "- `index`: the index, from 0 at the left");
        run.does("build", 4, 4, 0);
        heap(run, 1, 3);
        run.refuses(ELEMENT, "fillAt", 0, true, -1).is(1, "fillAt", 0, true, 0).is(0, "fillAt", 0, true, 1);
        run.refuses(ELEMENT, "fillAt", 0, true, 2);
        run = says(29, "Returns the stone.");
        run.does("build", 24, 4, 0);
        heap(run, 9, 9, 6);
        run.is(0, "fillAt", 0, true, 0).is(1, "fillAt", 0, true, 1).is(2, "fillAt", 0, true, 2);
    }

    private void fillAtThrows() {
        Run run = says(29, "Throws `IllegalStateException` if there is no wall");
        heap(run, 4);
        run.refuses(STATE, "fillAt", 0, true, 0).refuses(STATE, "fillAt", -1, true, -1).refuses(STATE, "fillAt", 8, false, 99);
        run = says(29, "Throws `IndexOutOfBoundsException` if the course cannot be: it is below 0, above 7, or its width would be "
                + "below 2");
        heap(run, 4);
        for (int[] wall : new int[][] {{4, 0, 8}, {8, 1, 7}, {9, 1, 8}, {7, 2, 3}}) {
            run.does("build", 4, wall[0], wall[1]);
            run.refuses(ELEMENT, "fillAt", wall[2] - 1, true, 0).is(0, "fillAt", 0, true, 0);
            for (int wrong : new int[] {wall[2], -1, 8, LEAST, MOST}) {
                run.refuses(BOUNDS, "fillAt", wrong, true, 0).refuses(BOUNDS, "fillAt", wrong, false, -1);
            }
        }
        run = says(29, "Throws `NoSuchElementException` if it cannot be filled, or there is no such one");
        run.does("build", 4, 4, 0);
        run.refuses(ELEMENT, "fillAt", 0, true, 0).refuses(ELEMENT, "fillAt", 0, true, -1);
        heap(run, 3);
        run.refuses(ELEMENT, "fillAt", 0, true, 0);
        heap(run, 1, 4);
        for (int wrong : new int[] {1, -1, 12, LEAST, MOST}) {
            run.refuses(ELEMENT, "fillAt", 0, true, wrong);
        }
        run.is(2, "fillAt", 0, true, 0);
        run.does("lift", 2);
        run.does("lay", 0, true, 0);
        run.refuses(ELEMENT, "fillAt", 0, true, 0).refuses(ELEMENT, "fillAt", 0, true, -1);
    }
}
