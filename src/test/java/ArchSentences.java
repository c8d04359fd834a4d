/** "Arches", and the promises 36 to 41. */
final class ArchSentences extends Sentences {
    ArchSentences(Document document) {
        super(document);
    }

    @Override
    void all() {
        howMany();
        ranges();
        setInOrder();
        moments();
        wholeHeights();
        withinHeights();
        exactly();
        leastThrust();
        withoutThrust();
        arch();
        voussoir();
        voussoirThrows();
        crown();
        crownThrows();
        set();
        strike();
        thrust();
    }

    /** An arch of which stones are told by four numbers each: the width, the weight, the low and the high height. */
    private static void tell(Run run, int... told) {
        run.does("arch", told.length / 4);
        for (int i = 0; i < told.length / 4; i++) {
            run.does("voussoir", i, told[4 * i], told[4 * i + 1], told[4 * i + 2], told[4 * i + 3]);
        }
    }

    private static void setAll(Run run, int stones) {
        for (int index = stones - 1; index >= 0; index--) {
            run.is(index, "set");
        }
    }

    private void howMany() {
        Run run = says("Arches", "Half of an arch has stones from the crown outward, 0 being the key, 2 to 8 of them");
        run.refuses(ARGUMENT, "arch", 1).refuses(ARGUMENT, "arch", 9).is(0, "arch", 2);
        run.refuses(BOUNDS, "voussoir", -1, 1, 1, 0, 0).refuses(BOUNDS, "voussoir", 2, 1, 1, 0, 0);
        run.is(1, "voussoir", 1, 1, 1, 0, 999).is(2, "voussoir", 0, 1, 1, 0, 999).is(1, "thrust");
        run.is(0, "arch", 8).refuses(BOUNDS, "voussoir", 8, 1, 1, 0, 0);
        for (int index = 0; index < 8; index++) {
            run.refuses(UNSUPPORTED, "thrust").is(index + 1, "voussoir", index, 1, 1, 0, 999);
        }
        run.is(1, "thrust");
        setAll(run, 8);
        run.is(true, "strike").is(8, "arch", 2);
    }

    private void ranges() {
        Run run = says("Arches", "each with a width, 1 to 99, a weight, 1 to 9999, and a low and a high height, 0 to 999, of its "
                + "outer joint, and a low and a high one at the crown");
        run.does("arch", 2);
        int[][] wrong = {{0, 1, 0, 0}, {100, 1, 0, 0}, {1, 0, 0, 0}, {1, 10000, 0, 0}, {1, 1, -1, 0}, {1, 1, 0, 1000}, {1, 1, 1000, 1000},
            {1, 1, -1, -1}, {1, 1, 5, 4}, {1, 1, 999, 0}};
        for (int[] w : wrong) {
            run.refuses(ARGUMENT, "voussoir", 0, w[0], w[1], w[2], w[3]);
        }
        int[][] right = {{1, 1, 0, 0}, {99, 1, 0, 0}, {1, 9999, 0, 0}, {1, 1, 0, 999}, {1, 1, 999, 999}, {1, 1, 5, 5}, {99, 9999, 0, 999}};
        for (int[] r : right) {
            run.is(1, "voussoir", 0, r[0], r[1], r[2], r[3]);
        }
        for (int[] w : new int[][] {{-1, 0}, {0, 1000}, {1000, 1000}, {-1, -1}, {5, 4}, {999, 0}}) {
            run.refuses(ARGUMENT, "crown", w[0], w[1]);
        }
        run.is(0, "crown", 0, 0).is(0, "crown", 999, 999).is(999, "crown", 5, 5).is(5, "crown", 0, 999);
    }

    private void setInOrder() {
        Run run = says("Arches", "The stones are set from the outermost one on, the key last");
        tell(run, 1, 1, 0, 999, 1, 1, 0, 999, 1, 1, 0, 999);
        run.is(2, "set").is(1, "set").is(0, "set").refuses(UNSUPPORTED, "set");
        run = says("Arches", "then the centre can be struck");
        tell(run, 1, 1, 0, 999, 1, 1, 0, 999);
        run.refuses(UNSUPPORTED, "strike").is(1, "set").refuses(UNSUPPORTED, "strike").is(0, "set").is(true, "strike");
        run.refuses(UNSUPPORTED, "strike");
    }

    private void moments() {
        int[] due = {21, 111, 173};
        for (int joint = 0; joint < 3; joint++) {
            Run run = says("Arches", "The moment at the outer joint of a stone is the sum, over it and all ahead of it, of the weight "
                    + "times how far that joint is outward of where the stone begins.");
            run.does("arch", 3);
            int[][] stones = {{3, 7}, {5, 11}, {2, 13}};
            for (int i = 0; i < 3; i++) {
                int low = i == joint ? 500 : 0;
                run.does("voussoir", i, stones[i][0], stones[i][1], low, i == joint ? 500 : 999);
            }
            run.does("crown", 501, 501);
            run.is(due[joint], "thrust");
        }
        Run run = says("Arches", "how far that joint is outward of where the stone begins");
        run.does("arch", 8);
        for (int i = 0; i < 8; i++) {
            run.does("voussoir", i, 99, 50, i == 7 ? 10 : 0, i == 7 ? 10 : 999);
        }
        run.does("crown", 20, 20);
        run.is(36 * 99 * 50 / 10, "thrust");
    }

    private void wholeHeights() {
        Run run = says("Arches", "With a thrust, an arch stands if there is a whole height within those of the crown that, less each "
                + "moment divided by the thrust, is within the heights of each joint");
        tell(run, 1, 7, 500, 500, 1, 1, 0, 999);
        run.is(0, "crown", 0, 507).is(1, "thrust").is(0, "crown", 0, 506).is(7, "thrust").is(0, "crown", 0, 501).is(7, "thrust");
        run.is(0, "crown", 0, 500).refuses(ELEMENT, "thrust").is(0, "crown", 501, 506).is(7, "thrust");
        run.is(501, "crown", 502, 506).refuses(ELEMENT, "thrust").is(502, "crown", 507, 507).is(1, "thrust");
        run.is(507, "crown", 508, 999).refuses(ELEMENT, "thrust").is(508, "crown", 0, 999).is(1, "thrust");
        run = says("Arches", "is within the heights of each joint");
        tell(run, 1, 6, 494, 494, 1, 1, 0, 999);
        run.does("crown", 495, 500);
        run.is(1, "thrust").is(495, "crown", 495, 499).is(2, "thrust").is(495, "crown", 495, 496).is(3, "thrust");
        run.is(495, "crown", 495, 495).is(6, "thrust");
        run = says("Arches", "a whole height");
        tell(run, 1, 1, 500, 500, 1, 1, 499, 499);
        run.refuses(ELEMENT, "thrust");
        tell(run, 1, 1, 500, 500, 1, 1, 498, 498);
        run.is(1, "thrust");
        run = says("Arches", "a whole height");
        tell(run, 1, 2, 23, 23, 2, 1, 21, 22);
        run.does("crown", 17, 25);
        // with 3 the outer joint asks for 24 at the crown, the inner one for 23 and two thirds
        run.refuses(ELEMENT, "thrust").is(2, "voussoir", 0, 1, 2, 23, 24).is(2, "thrust").is(17, "crown", 17, 24).is(3, "thrust");
        tell(run, 3, 6, 18, 19, 2, 1, 16, 17);
        run.does("crown", 10, 29);
        run.is(6, "thrust");
        tell(run, 1, 2, 23, 23, 1, 1, 0, 999, 1, 1, 0, 999, 1, 1, 0, 999, 1, 1, 0, 999, 1, 1, 0, 999, 1, 1, 0, 999, 1, 1, 9, 10);
        run.refuses(ELEMENT, "thrust").is(8, "voussoir", 0, 1, 2, 23, 24).is(3, "thrust");
    }

    private void withinHeights() {
        Run run = says("Arches", "is within the heights of each joint");
        tell(run, 10, 20, 480, 490, 10, 20, 300, 999);
        run.does("crown", 500, 500);
        run.is(10, "thrust").is(2, "voussoir", 0, 10, 20, 480, 480).is(10, "thrust").is(2, "voussoir", 0, 10, 20, 481, 490);
        run.is(11, "thrust").is(2, "voussoir", 0, 10, 20, 0, 480).is(3, "thrust").is(2, "voussoir", 0, 10, 20, 400, 433);
        run.refuses(ELEMENT, "thrust").is(2, "voussoir", 0, 10, 20, 400, 434).is(3, "thrust");
        run.is(2, "voussoir", 0, 10, 20, 434, 434).refuses(ELEMENT, "thrust");
        run.is(2, "voussoir", 0, 10, 20, 434, 449).refuses(ELEMENT, "thrust").is(2, "voussoir", 0, 10, 20, 434, 450).is(4, "thrust");
        run.is(2, "voussoir", 0, 10, 20, 0, 999).is(3, "thrust").is(2, "voussoir", 1, 10, 20, 301, 999).is(4, "thrust");
        run.is(2, "voussoir", 1, 10, 20, 0, 349).is(2, "thrust").is(2, "voussoir", 1, 10, 20, 350, 350).is(4, "thrust");
        run.is(2, "voussoir", 1, 10, 20, 351, 379).refuses(ELEMENT, "thrust").is(2, "voussoir", 1, 10, 20, 351, 380).is(5, "thrust");
    }

    private void exactly() {
        Run run = says("Arches", "all of this exactly");
        tell(run, 1, 5000, 500, 999, 1, 1, 0, 999);
        run.does("crown", 501, 501);
        run.is(5000, "thrust").is(2, "voussoir", 0, 3, 6667, 500, 999).refuses(ELEMENT, "thrust");
        run.is(2, "voussoir", 0, 3, 6666, 500, 999).is(19998, "thrust");
        run = says("Arches", "all of this exactly");
        tell(run, 1, 3, 500, 500, 1, 3, 491, 497);
        run.is(0, "crown", 0, 502).refuses(ELEMENT, "thrust").is(2, "voussoir", 1, 1, 3, 491, 498).is(3, "thrust");
        run.is(2, "voussoir", 1, 1, 3, 499, 999).refuses(ELEMENT, "thrust");
        run.is(2, "voussoir", 1, 1, 3, 0, 497).refuses(ELEMENT, "thrust");
    }

    private void leastThrust() {
        Run run = says("Arches", "The thrust of an arch is the least one from 1 to 20000 with which it stands");
        tell(run, 1, 1, 0, 999, 1, 1, 0, 999);
        run.is(1, "thrust");
        tell(run, 20, 1000, 998, 998, 1, 1, 0, 999);
        run.is(20000, "thrust");
        tell(run, 1, 20, 0, 999, 20, 979, 998, 998);
        run.is(20000, "thrust").is(2, "voussoir", 0, 1, 21, 0, 999).refuses(ELEMENT, "thrust");
        tell(run, 20, 1001, 998, 998, 1, 1, 0, 999);
        run.refuses(ELEMENT, "thrust");
        tell(run, 99, 202, 998, 999, 1, 2, 0, 999);
        run.is(19998, "thrust");
        tell(run, 99, 9999, 0, 999, 1, 1, 0, 999);
        run.is(1001, "thrust");
    }

    private void withoutThrust() {
        Run run = says("Arches", "without one it falls as the centre is struck, and there is no arch any more");
        tell(run, 20, 1001, 998, 998, 1, 1, 0, 999);
        setAll(run, 2);
        run.refuses(ELEMENT, "thrust").is(true, "isTrue").is(false, "strike").is(true, "isTrue");
        run.refuses(STATE, "strike").refuses(STATE, "thrust").refuses(STATE, "set").refuses(STATE, "crown", 0, 999);
        run.refuses(STATE, "voussoir", 0, 1, 1, 0, 0).is(0, "arch", 2).refuses(UNSUPPORTED, "set");
        run.refuses(UNSUPPORTED, "thrust").is(1, "voussoir", 0, 1, 1, 0, 999).is(2, "voussoir", 1, 1, 1, 0, 999).is(1, "thrust");
        run = says("Arches", "without one it falls as the centre is struck");
        tell(run, 20, 1000, 998, 998, 1, 1, 0, 999);
        setAll(run, 2);
        run.is(true, "strike").is(20000, "thrust").is(true, "isTrue").refuses(UNSUPPORTED, "strike").is(2, "arch", 2);
        tell(run, 1, 1, 0, 999, 1, 1, 0, 999);
        setAll(run, 2);
        run.is(true, "strike").is(1, "thrust").is(true, "isTrue");
    }

    private void arch() {
        Run run = says(36, "- `stones`: how many, 2 to 8");
        run.refuses(ARGUMENT, "arch", 1).refuses(ARGUMENT, "arch", 9).is(0, "arch", 2).is(0, "arch", 8);
        run = says(36, "Returns how many are set of the one before.");
        tell(run, 1, 1, 0, 999, 1, 1, 0, 999, 1, 1, 0, 999);
        run.is(2, "set").is(1, "set").is(2, "arch", 3).is(0, "arch", 2);
        run = says(36, "Begins half of an arch, in place of the one before; its centre is there.");
        tell(run, 1, 1, 0, 999, 1, 1, 0, 999);
        run.does("crown", 7, 8);
        setAll(run, 2);
        run.is(true, "strike").is(2, "arch", 3).refuses(UNSUPPORTED, "set").refuses(UNSUPPORTED, "strike");
        run.refuses(UNSUPPORTED, "thrust").is(0, "crown", 9, 9).is(1, "voussoir", 2, 1, 1, 0, 999).is(2, "set");
        for (int stones = 8; stones >= 2; stones--) {
            run = says(36, "in place of the one before");
            run.does("arch", 8);
            for (int index = 0; index < 8; index++) {
                run.does("voussoir", index, 99, 9999, 0, 0);
            }
            run.refuses(ELEMENT, "thrust").is(7, "set").is(1, "arch", stones).refuses(UNSUPPORTED, "set");
            for (int index = stones - 1; index >= 0; index--) {
                run.refuses(UNSUPPORTED, "thrust").is(stones - index, "voussoir", index, 1, 1, 0, 999);
            }
            run.is(1, "thrust");
            setAll(run, stones);
        }
        run = says(36, "Throws `IllegalArgumentException` if a number is out of range");
        for (int wrong : new int[] {1, 9, 0, -1, LEAST, MOST}) {
            run.refuses(ARGUMENT, "arch", wrong);
        }
        tell(run, 10, 20, 80, 100, 10, 20, 50, 90);
        run.does("set");
        for (int wrong : new int[] {1, 9, 0, -1, LEAST, MOST}) {
            run.refuses(ARGUMENT, "arch", wrong);
        }
        run.is(8, "thrust");
    }

    private void voussoir() {
        Run run = says(37, "- `index`: the index, 0 for the key");
        run.does("arch", 2);
        run.refuses(BOUNDS, "voussoir", -1, 1, 1, 0, 0).is(1, "voussoir", 0, 1, 1, 0, 0).is(2, "voussoir", 1, 1, 1, 0, 0);
        run.refuses(BOUNDS, "voussoir", 2, 1, 1, 0, 0);
        run = says(37, "Returns how many are told.");
        run.does("arch", 3);
        run.is(1, "voussoir", 1, 1, 1, 0, 0).is(1, "voussoir", 1, 2, 2, 0, 999).is(2, "voussoir", 2, 1, 1, 0, 0);
        run.is(3, "voussoir", 0, 1, 1, 0, 999).is(3, "voussoir", 0, 2, 1, 0, 999).is(0, "arch", 3).is(1, "voussoir", 0, 1, 1, 0, 0);
        run = says(37, "- `high`: the high height, not less");
        run.does("arch", 2);
        run.refuses(ARGUMENT, "voussoir", 0, 1, 1, 6, 5).is(1, "voussoir", 0, 1, 1, 6, 6);
    }

    private void voussoirThrows() {
        Run run = says(37, "Throws `IllegalStateException` if there is no arch");
        run.refuses(STATE, "voussoir", 0, 1, 1, 0, 0).refuses(STATE, "voussoir", -1, 0, 0, -1, -1);
        run.refuses(STATE, "voussoir", 0, 0, 1, 0, 0).refuses(STATE, "voussoir", 8, 1, 1, 0, 0);
        run = says(37, "Throws `IndexOutOfBoundsException` if there is no such one");
        run.does("arch", 3);
        for (int wrong : new int[] {-1, 3, 8, LEAST, MOST}) {
            run.refuses(BOUNDS, "voussoir", wrong, 1, 1, 0, 0).refuses(BOUNDS, "voussoir", wrong, 0, 0, 5, 4);
        }
        run.is(1, "voussoir", 2, 1, 1, 0, 0);
        run = says(37, "Throws `IllegalArgumentException` if a number is out of range");
        tell(run, 1, 1, 0, 999, 1, 1, 0, 999);
        int[][] wrong = {{0, 1, 0, 0}, {100, 1, 0, 0}, {-1, 1, 0, 0}, {LEAST, 1, 0, 0}, {MOST, 1, 0, 0}, {1, 0, 0, 0}, {1, 10000, 0, 0},
            {1, -1, 0, 0}, {1, LEAST, 0, 0}, {1, MOST, 0, 0}, {1, 1, -1, 0}, {1, 1, LEAST, 0}, {1, 1, 1000, 1000}, {1, 1, 0, 1000},
            {1, 1, 0, MOST}, {1, 1, MOST, MOST}, {1, 1, 0, -1}, {1, 1, 1, 0}, {1, 1, 999, 998}};
        for (int[] w : wrong) {
            run.refuses(ARGUMENT, "voussoir", 1, w[0], w[1], w[2], w[3]);
        }
        run.does("set");
        for (int[] w : wrong) {
            run.refuses(ARGUMENT, "voussoir", 1, w[0], w[1], w[2], w[3]);
        }
        run = says(37, "Throws `UnsupportedOperationException` if it is set");
        tell(run, 1, 1, 0, 999, 1, 1, 0, 999, 1, 1, 0, 999);
        run.is(2, "set").refuses(UNSUPPORTED, "voussoir", 2, 1, 1, 0, 999).is(3, "voussoir", 1, 1, 1, 0, 999).is(1, "set");
        run.refuses(UNSUPPORTED, "voussoir", 1, 1, 1, 0, 999).is(3, "voussoir", 0, 1, 1, 0, 998).is(0, "set");
        run.refuses(UNSUPPORTED, "voussoir", 0, 1, 1, 0, 999).is(true, "strike").refuses(UNSUPPORTED, "voussoir", 0, 1, 1, 0, 999);
    }

    private void crown() {
        Run run = says(38, "Tells the heights at the crown, 0 and 999 at first.");
        tell(run, 1, 2, 998, 998, 1, 1, 0, 999);
        run.is(2, "thrust").is(0, "crown", 0, 998).refuses(ELEMENT, "thrust");
        tell(run, 1, 1, 0, 0, 1, 1, 0, 999);
        run.refuses(ELEMENT, "thrust").is(0, "crown", 0, 999).refuses(ELEMENT, "thrust");
        tell(run, 1, 1, 998, 998, 1, 1, 0, 999);
        run.is(1, "thrust");
        run = says(38, "Returns the low height before.");
        run.does("arch", 2);
        run.is(0, "crown", 5, 10).is(5, "crown", 10, 10).is(10, "crown", 999, 999).is(999, "crown", 0, 0).is(0, "crown", 1, 2);
        run.is(0, "arch", 2).is(0, "crown", 1, 1);
    }

    private void crownThrows() {
        Run run = says(38, "Throws `IllegalStateException` if there is no arch");
        run.refuses(STATE, "crown", 0, 999).refuses(STATE, "crown", -1, 0).refuses(STATE, "crown", 5, 4);
        run = says(38, "Throws `IllegalArgumentException` if a number is out of range");
        tell(run, 1, 1, 0, 999, 1, 1, 0, 999);
        int[][] wrong = {{-1, 0}, {0, 1000}, {1000, 1000}, {5, 4}, {LEAST, 0}, {0, MOST}, {MOST, MOST}, {0, LEAST}, {-1, 999}};
        for (int[] w : wrong) {
            run.refuses(ARGUMENT, "crown", w[0], w[1]);
        }
        setAll(run, 2);
        run.is(0, "crown", 3, 999).is(true, "strike");
        for (int[] w : wrong) {
            run.refuses(ARGUMENT, "crown", w[0], w[1]);
        }
        run = says(38, "Throws `UnsupportedOperationException` if the centre was struck");
        tell(run, 1, 1, 0, 999, 1, 1, 0, 999);
        setAll(run, 2);
        run.is(0, "crown", 0, 999).is(true, "strike").refuses(UNSUPPORTED, "crown", 0, 999).refuses(UNSUPPORTED, "crown", 999, 999);
    }

    private void set() {
        Run run = says(39, "Returns its index.");
        run.does("arch", 8);
        for (int index = 7; index >= 0; index--) {
            run.does("voussoir", index, 1, 1, 0, 999);
            run.is(index, "set");
        }
        run = says(39, "Throws `IllegalStateException` if there is no arch");
        run.refuses(STATE, "set");
        run = says(39, "Throws `UnsupportedOperationException` if it is not told, or all are set");
        run.does("arch", 3);
        run.refuses(UNSUPPORTED, "set").is(1, "voussoir", 0, 1, 1, 0, 999).refuses(UNSUPPORTED, "set");
        run.is(2, "voussoir", 1, 1, 1, 0, 999).refuses(UNSUPPORTED, "set").is(3, "voussoir", 2, 1, 1, 0, 999);
        run.is(2, "set").is(1, "set").is(0, "set").refuses(UNSUPPORTED, "set").is(true, "strike").refuses(UNSUPPORTED, "set");
        run = says(39, "if it is not told");
        run.does("arch", 2);
        run.does("voussoir", 1, 1, 1, 0, 999);
        run.is(1, "set").refuses(UNSUPPORTED, "set").is(2, "voussoir", 0, 1, 1, 0, 999).is(0, "set");
        run.is(2, "arch", 2).refuses(UNSUPPORTED, "set");
    }

    private void strike() {
        Run run = says(40, "Returns whether the arch stands.");
        tell(run, 10, 20, 80, 100, 10, 20, 50, 90);
        setAll(run, 2);
        run.is(true, "strike");
        tell(run, 10, 20, 900, 999, 10, 20, 0, 1);
        setAll(run, 2);
        run.is(false, "strike");
        run = says(40, "Throws `IllegalStateException` if there is no arch");
        run.refuses(STATE, "strike");
        run = says(40, "Throws `UnsupportedOperationException` if the key is not set, or the centre was struck");
        tell(run, 1, 1, 0, 999, 1, 1, 0, 999);
        run.refuses(UNSUPPORTED, "strike").is(1, "set").refuses(UNSUPPORTED, "strike").is(0, "set").is(true, "strike");
        run.refuses(UNSUPPORTED, "strike").is(2, "arch", 8).refuses(UNSUPPORTED, "strike");
        run = says(40, "if the key is not set");
        tell(run, 1, 1, 900, 999, 1, 1, 0, 1);
        run.is(1, "set").refuses(UNSUPPORTED, "strike").refuses(ELEMENT, "thrust");
    }

    private void thrust() {
        Run run = says(41, "Returns the thrust.");
        tell(run, 10, 20, 80, 100, 10, 20, 50, 90);
        run.is(8, "thrust").is(1, "set").is(8, "thrust").is(0, "set").is(8, "thrust").is(true, "strike").is(8, "thrust");
        run = says(41, "Throws `IllegalStateException` if there is no arch");
        run.refuses(STATE, "thrust");
        run = says(41, "Throws `UnsupportedOperationException` if not all are told");
        run.does("arch", 2);
        run.refuses(UNSUPPORTED, "thrust").is(1, "voussoir", 1, 1, 1, 0, 0).refuses(UNSUPPORTED, "thrust");
        run.is(1, "voussoir", 1, 1, 1, 0, 999).refuses(UNSUPPORTED, "thrust").is(2, "voussoir", 0, 1, 1, 0, 999).is(1, "thrust");
        run = says(41, "Throws `NoSuchElementException` if there is none");
        tell(run, 1, 1, 500, 500, 1, 1, 499, 499);
        run.refuses(ELEMENT, "thrust").is(1, "set").is(0, "set").refuses(ELEMENT, "thrust");
    }
}
