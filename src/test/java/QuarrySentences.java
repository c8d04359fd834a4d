/** "Quarry", "Sap", and the promises 10 to 17. */
final class QuarrySentences extends Sentences {
    QuarrySentences(Document document) {
        super(document);
    }

    @Override
    void all() {
        widthAndDepth();
        beds();
        joints();
        blocksOfBed();
        whatCanBeTaken();
        takenNoMore();
        faults();
        daysOfSap();
        nightOfFrost();
        elsewhere();
        quarry();
        bed();
        split();
        fault();
        blocks();
        take();
        takeThrows();
        pass();
        frost();
    }

    private static void open(Run run, int width, int depth, int... joints) {
        run.does("quarry", width, depth);
        run.does("bed", 1);
        for (int joint : joints) {
            run.does("split", joint);
        }
    }

    private void widthAndDepth() {
        Run run = says("Quarry", "A quarry has a width, 4 to 30, and a depth, 1 to 6");
        run.refuses(ARGUMENT, "quarry", 3, 1).refuses(ARGUMENT, "quarry", 31, 1);
        run.refuses(ARGUMENT, "quarry", 4, 0).refuses(ARGUMENT, "quarry", 4, 7);
        run.is(0, "quarry", 4, 1).is(0, "bed", 1).is(1, "blocks", 0);
        run.refuses(ARGUMENT, "quarry", 3, 1).refuses(ARGUMENT, "quarry", 4, 7);
        run.is(1, "quarry", 30, 6).is(0, "bed", 1).is(0, "blocks", 0).is(true, "split", 29).is(0, "take", 0, 1);
        run.is(6, "size", 0, 't').is(1, "size", 0, 'l');
    }

    private void beds() {
        Run run = says("Quarry", "it has beds, at most 6, numbered from 0, each with a height, 1 to 4");
        run.does("quarry", 9, 2);
        run.refuses(BOUNDS, "blocks", 0);
        run.refuses(ARGUMENT, "bed", 0).refuses(ARGUMENT, "bed", 5);
        int[] heights = {1, 4, 2, 3, 1, 4};
        for (int i = 0; i < 6; i++) {
            run.is(i, "bed", heights[i]).refuses(BOUNDS, "blocks", i + 1);
        }
        run.refuses(STATE, "bed", 1);
        run.refuses(BOUNDS, "blocks", -1);
        for (int i = 0; i < 6; i++) {
            run.is(1, "blocks", i).is(i, "take", i, 0).is(heights[i], "size", i, 'h').is(0, "blocks", i);
        }
        run.refuses(STATE, "bed", 1);
        run.is(6, "quarry", 9, 2).is(0, "bed", 1);
    }

    private void joints() {
        Run run = says("Quarry", "and joints, at places from 1 to the width less 1, through all beds");
        open(run, 10, 1);
        run.does("bed", 2);
        run.refuses(ARGUMENT, "split", 0).refuses(ARGUMENT, "split", 10);
        run.is(0, "blocks", 0).is(true, "split", 1).is(2, "blocks", 0).is(2, "blocks", 1);
        run.is(true, "split", 9).is(3, "blocks", 0).is(3, "blocks", 1).is(false, "split", 9).is(false, "split", 1);
        run.is(0, "take", 1, 2).is(1, "size", 0, 'l');
        run = says("Quarry", "at places from 1 to the width less 1");
        open(run, 4, 1);
        run.refuses(ARGUMENT, "split", 4).is(true, "split", 3).is(2, "blocks", 0);
        run.does("quarry", 30, 1);
        run.refuses(ARGUMENT, "split", 30).is(true, "split", 29);
    }

    private void blocksOfBed() {
        Run run = says("Quarry", "The blocks of a bed are what is between two joints that are next to each other, or the ends, "
                + "from the left, numbered from 0.");
        open(run, 12, 1, 8, 3);
        run.refuses(BOUNDS, "take", 0, 3).refuses(BOUNDS, "take", 0, -1);
        run.is(0, "take", 0, 1).is(5, "size", 0, 'l').is(1, "take", 0, 2).is(4, "size", 1, 'l');
        run.is(2, "take", 0, 0).is(3, "size", 2, 'l').is(0, "blocks", 0);
        run.refuses(BOUNDS, "take", 0, 3).refuses(UNSUPPORTED, "take", 0, 2);
        run = says("Quarry", "or the ends");
        open(run, 9, 1);
        run.is(1, "blocks", 0).refuses(BOUNDS, "take", 0, 1).is(0, "take", 0, 0).is(9, "size", 0, 'l');
        run = says("Quarry", "two joints that are next to each other");
        open(run, 30, 1);
        for (int joint = 1; joint < 30; joint++) {
            run.is(true, "split", joint);
        }
        run.is(30, "blocks", 0).refuses(BOUNDS, "take", 0, 30);
        for (int block = 0; block < 30; block++) {
            run.is(block, "take", 0, block).is(1, "size", block, 'l').is(29 - block, "blocks", 0);
        }
    }

    private void whatCanBeTaken() {
        Run run = says("Quarry", "A block can be taken if it has no fault");
        open(run, 18, 1, 5, 12);
        run.does("bed", 2);
        run.is(3, "blocks", 0).is(true, "fault", 0, 5).is(2, "blocks", 0).refuses(UNSUPPORTED, "take", 0, 1);
        run.is(3, "blocks", 1).is(0, "take", 0, 0).is(true, "fault", 1, 11).refuses(UNSUPPORTED, "take", 1, 1);
        run.is(2, "blocks", 1).is(1, "take", 1, 2).is(2, "take", 0, 2);
        run = says("Quarry", "is at most 9 long");
        open(run, 19, 1, 9);
        run.is(1, "blocks", 0).refuses(UNSUPPORTED, "take", 0, 1).is(0, "take", 0, 0).is(9, "size", 0, 'l').is(0, "blocks", 0);
        run = says("Quarry", "is at most 9 long");
        open(run, 19, 1, 10);
        run.is(1, "blocks", 0).refuses(UNSUPPORTED, "take", 0, 0).is(0, "take", 0, 1).is(9, "size", 0, 'l');
        run = says("Quarry", "and is there");
        open(run, 8, 1, 4);
        run.is(2, "blocks", 0).is(0, "take", 0, 0).is(1, "blocks", 0).refuses(UNSUPPORTED, "take", 0, 0);
        run.is(1, "take", 0, 1).is(0, "blocks", 0).refuses(UNSUPPORTED, "take", 0, 1);
        run = says("Quarry", "it is a stone of its length, the height of the bed, and the depth as its tail, in the heap, "
                + "full of sap");
        run.does("quarry", 12, 5);
        run.does("bed", 3);
        run.does("split", 7);
        run.is(0, "take", 0, 0).is(7, "size", 0, 'l').is(3, "size", 0, 'h').is(5, "size", 0, 't').is('h', "state", 0);
        run.is(0, "heap", 0).is(1, "take", 0, 1).is(5, "size", 1, 'l').is(2, "frost").is(3, "size", 0, 'l');
    }

    private void takenNoMore() {
        Run run = says("Quarry", "A block that was taken is there no more");
        open(run, 9, 1);
        run.does("bed", 2);
        run.is(0, "take", 0, 0).is(0, "blocks", 0).is(1, "blocks", 1).refuses(UNSUPPORTED, "take", 0, 0);
        run.is(1, "take", 1, 0).refuses(UNSUPPORTED, "take", 1, 0);
        run = says("Quarry", "joints that are made later part blocks, those that were taken being so in all parts");
        open(run, 19, 1, 9);
        run.does("bed", 2);
        run.is(0, "take", 0, 0).is(true, "split", 1).is(true, "split", 8).is(0, "blocks", 0).is(3, "blocks", 1);
        run.refuses(UNSUPPORTED, "take", 0, 0).refuses(UNSUPPORTED, "take", 0, 1).refuses(UNSUPPORTED, "take", 0, 2);
        run.refuses(UNSUPPORTED, "take", 0, 3).is(true, "split", 18).is(2, "blocks", 0).is(5, "blocks", 1);
        run.is(1, "take", 0, 3).is(9, "size", 1, 'l').is(2, "take", 0, 4).is(1, "size", 2, 'l');
        run.is(3, "take", 1, 1).is(7, "size", 3, 'l');
        run = says("Quarry", "joints that are made later part blocks");
        open(run, 9, 1);
        run.is(true, "fault", 0, 4).is(0, "blocks", 0).is(true, "split", 4).is(1, "blocks", 0).is(true, "split", 5);
        run.is(2, "blocks", 0).refuses(UNSUPPORTED, "take", 0, 1).is(0, "take", 0, 2).is(4, "size", 0, 'l');
    }

    private void faults() {
        Run run = says("Quarry", "A fault is at a place of a bed, from 0 to the width less 1.");
        open(run, 9, 1, 4);
        run.does("bed", 1);
        run.refuses(BOUNDS, "fault", 0, -1).refuses(BOUNDS, "fault", 0, 9);
        run.is(true, "fault", 0, 0).is(1, "blocks", 0).is(true, "fault", 0, 8).is(0, "blocks", 0).is(2, "blocks", 1);
        run.is(false, "fault", 0, 0).is(false, "fault", 0, 8).is(true, "fault", 1, 8).is(1, "blocks", 1);
        run.does("quarry", 30, 1);
        run.does("bed", 1);
        run.refuses(BOUNDS, "fault", 0, 30).is(true, "fault", 0, 29).is(true, "split", 29).is(true, "split", 21);
        run.is(1, "blocks", 0);
    }

    private void daysOfSap() {
        Run run = says("Sap", "A stone that was taken is full of sap on the day of that and the 9 behind it.");
        open(run, 9, 1);
        run.is(0, "take", 0, 0).is(1, "frost").is(4, "size", 0, 'l').is(9, "pass", 9).is(1, "frost").is(2, "size", 0, 'l');
        run.is(10, "pass", 1).is(0, "frost").is(2, "size", 0, 'l').is(109, "pass", 99).is(0, "frost");
        run = says("Sap", "on the day of that and the 9 behind it");
        open(run, 9, 1, 3, 6);
        run.is(0, "take", 0, 0).is(99, "pass", 99).is(1, "take", 0, 1).is(1, "frost").is(3, "size", 0, 'l').is(1, "size", 1, 'l');
        run.is(108, "pass", 9).is(2, "take", 0, 2).is(2, "frost").is('g', "state", 1).is(1, "size", 2, 'l');
        run.is(117, "pass", 9).is(1, "frost").is('g', "state", 2);
        run = says("Sap", "A stone that was taken is full of sap");
        run.is(0, "stone", 9, 1, 1).is(0, "frost").is(9, "size", 0, 'l');
    }

    private void nightOfFrost() {
        Run run = says("Sap", "A night of frost makes each stone with sap that is in the heap half as long, cut, or gone if its "
                + "length is 1");
        open(run, 15, 1, 9, 12, 14);
        run.is(0, "frost");
        for (int block = 0; block < 4; block++) {
            run.is(block, "take", 0, block);
        }
        int[][] due = {{4, 1, 1, 1}, {2, 1, 1, 1}, {1, 1, 1, 1}, {1, 1, 1, 1}};
        int[] suffer = {4, 3, 1, 1};
        for (int night = 0; night < 4; night++) {
            run.is(suffer[night], "frost");
            for (int stone = 0; stone < 4; stone++) {
                run.is(due[night][stone], "size", stone, 'l');
            }
        }
        run.is('g', "state", 0).is('g', "state", 1).is('g', "state", 2).is('g', "state", 3);
        run.is(0, "frost").refuses(ELEMENT, "heap", 0).refuses(UNSUPPORTED, "lift", 0);
        run = says("Sap", "half as long");
        open(run, 13, 1, 8);
        run.does("take", 0, 0);
        run.does("take", 0, 1);
        run.does("stone", 3, 1, 1);
        run.is(0, "heap", 0).is(1, "heap", 1).is(2, "heap", 2);
        run.is(2, "frost").is(4, "size", 0, 'l').is(2, "size", 1, 'l').is(0, "heap", 0).is(2, "heap", 1).is(1, "heap", 2);
        run = says("Sap", "or gone if its length is 1");
        open(run, 4, 1, 1, 3);
        run.does("take", 0, 0);
        run.does("take", 0, 1);
        run.is(2, "frost").is('g', "state", 0).is('h', "state", 1).is(1, "size", 1, 'l').is(1, "heap", 0);
        run.refuses(ELEMENT, "heap", 1);
    }

    private void elsewhere() {
        Run run = says("Sap", "stones elsewhere do not suffer");
        open(run, 13, 1, 4, 8, 9);
        for (int block = 0; block < 4; block++) {
            run.does("take", 0, block);
        }
        run.does("quarry", 4, 4);
        run.does("bed", 1);
        run.does("take", 0, 0);
        run.does("build", 4, 4, 0);
        run.does("lift", 0);
        run.is(4, "frost").is(4, "size", 0, 'l').is('g', "state", 2).is(2, "size", 3, 'l').is(2, "size", 4, 'l');
        run.does("lay", 0, true, 0);
        run.is(3, "frost").is(4, "size", 0, 'l').is(1, "size", 1, 'l').is(1, "size", 3, 'l').is(1, "size", 4, 'l');
        run.lay(4, 1, 1, 0, false, 0);
        run.does("lift", 3);
        run.does("pack", 0);
        run.does("lift", 4);
        run.does("cope");
        run.does("lift", 1);
        run.is(0, "frost").is('p', "state", 3).is('c', "state", 4).is('n', "state", 1);
        run.does("throwAway");
        run.is(0, "frost").is(1, "size", 1, 'l').is(1, "size", 3, 'l');
        run.does("push", 0, 10000L);
        run.is(2, "fall").is(2, "frost").is(2, "size", 0, 'l').is('g', "state", 4).is('p', "state", 3);
    }

    private void quarry() {
        Run run = says(10, "Returns how many beds the one before had.");
        run.is(0, "quarry", 9, 1).is(0, "quarry", 9, 1).is(0, "bed", 1).is(1, "quarry", 9, 1);
        for (int i = 0; i < 6; i++) {
            run.is(i, "bed", 1);
        }
        run.is(6, "quarry", 4, 1).is(0, "quarry", 4, 1);
        run = says(10, "Makes a quarry, in place of the one before.");
        open(run, 12, 3, 4);
        run.does("fault", 0, 5);
        run.does("take", 0, 0);
        run.is(1, "quarry", 9, 2).refuses(BOUNDS, "blocks", 0).refuses(BOUNDS, "fault", 0, 0).refuses(ARGUMENT, "split", 9);
        run.is(0, "bed", 4).is(1, "blocks", 0).is(true, "fault", 0, 5).is(true, "split", 4).is(1, "blocks", 0);
        run.is(1, "take", 0, 0).is(2, "size", 1, 't').is(4, "size", 1, 'h').is(3, "size", 0, 't').is('h', "state", 0);
        run = says(10, "Throws `IllegalArgumentException` if a number is out of range");
        int[][] wrong = {{3, 1}, {31, 1}, {4, 0}, {4, 7}, {LEAST, 1}, {MOST, 1}, {4, LEAST}, {4, MOST}, {-4, 1}, {4, -1}};
        for (int[] w : wrong) {
            run.refuses(ARGUMENT, "quarry", w[0], w[1]);
        }
        open(run, 9, 2, 3);
        for (int[] w : wrong) {
            run.refuses(ARGUMENT, "quarry", w[0], w[1]);
        }
    }

    private void bed() {
        Run run = says(11, "Returns its number.");
        run.does("quarry", 4, 1);
        run.is(0, "bed", 1).is(1, "bed", 1);
        run = says(11, "Throws `IllegalArgumentException` if a number is out of range");
        run.refuses(ARGUMENT, "bed", 0).refuses(ARGUMENT, "bed", 5);
        run.does("quarry", 4, 1);
        for (int wrong : new int[] {0, 5, -1, LEAST, MOST}) {
            run.refuses(ARGUMENT, "bed", wrong);
        }
        for (int i = 0; i < 6; i++) {
            run.is(i, "bed", 1 + i % 4);
        }
        run.refuses(ARGUMENT, "bed", 0).refuses(ARGUMENT, "bed", 5);
        run = says(11, "Throws `IllegalStateException` if there is no quarry, or it has 6");
        run.refuses(STATE, "bed", 1).refuses(STATE, "bed", 4);
        run.does("quarry", 4, 1);
        for (int i = 0; i < 6; i++) {
            run.is(i, "bed", 1);
        }
        run.refuses(STATE, "bed", 1).refuses(STATE, "bed", 4);
    }

    private void split() {
        Run run = says(12, "- `place`: the place, 1 to the width less 1");
        open(run, 5, 1);
        run.refuses(ARGUMENT, "split", 0).refuses(ARGUMENT, "split", 5).is(true, "split", 1).is(true, "split", 4);
        run = says(12, "Returns whether there was none.");
        open(run, 5, 1);
        run.is(true, "split", 2).is(false, "split", 2).is(true, "split", 3).is(false, "split", 3).is(3, "blocks", 0);
        run = says(12, "Throws `IllegalStateException` if there is no quarry");
        run.refuses(STATE, "split", 1).refuses(STATE, "split", 0).refuses(STATE, "split", MOST);
        run = says(12, "Throws `IllegalArgumentException` if a number is out of range");
        run.does("quarry", 7, 1);
        for (int wrong : new int[] {0, 7, -1, 8, 31, 32, 33, 64, -31, LEAST, MOST}) {
            run.refuses(ARGUMENT, "split", wrong);
        }
        run.is(true, "split", 6);
    }

    private void fault() {
        Run run = says(13, "- `place`: the place, from 0");
        open(run, 4, 1);
        run.refuses(BOUNDS, "fault", 0, -1).is(true, "fault", 0, 0);
        run = says(13, "Returns whether there was none.");
        open(run, 4, 1);
        run.does("bed", 1);
        run.is(true, "fault", 0, 3).is(false, "fault", 0, 3).is(true, "fault", 1, 3).is(true, "fault", 0, 2);
        run = says(13, "Throws `IndexOutOfBoundsException` if there is no such bed or place");
        run.refuses(BOUNDS, "fault", 0, 0);
        run.does("quarry", 4, 1);
        run.refuses(BOUNDS, "fault", 0, 0);
        run.does("bed", 1);
        run.does("bed", 1);
        int[][] wrong = {{-1, 0}, {2, 0}, {6, 0}, {LEAST, 0}, {MOST, 0}, {0, -1}, {0, 4}, {0, 31}, {0, 32}, {0, LEAST}, {0, MOST},
            {1, 4}, {2, 4}};
        for (int[] w : wrong) {
            run.refuses(BOUNDS, "fault", w[0], w[1]);
        }
        run.is(true, "fault", 1, 3);
    }

    private void blocks() {
        Run run = says(14, "Returns how many.");
        open(run, 30, 1, 9, 18, 27);
        run.is(4, "blocks", 0).is(0, "take", 0, 3).is(3, "blocks", 0).is(true, "fault", 0, 0).is(2, "blocks", 0);
        run.is(true, "fault", 0, 17).is(1, "blocks", 0).is(1, "take", 0, 2).is(0, "blocks", 0);
        run = says(14, "Throws `IndexOutOfBoundsException` if there is no such bed");
        run.refuses(BOUNDS, "blocks", 0);
        run.does("quarry", 4, 1);
        run.refuses(BOUNDS, "blocks", 0);
        run.does("bed", 1);
        for (int wrong : new int[] {1, -1, 6, LEAST, MOST}) {
            run.refuses(BOUNDS, "blocks", wrong);
        }
        run.is(1, "blocks", 0);
    }

    private void take() {
        Run run = says(15, "- `block`: the block, from 0");
        open(run, 4, 1, 2);
        run.refuses(BOUNDS, "take", 0, -1).is(0, "take", 0, 0);
        run = says(15, "Returns the stone.");
        open(run, 4, 1, 2);
        run.is(0, "stone", 1, 1, 1).is(1, "take", 0, 1).is(2, "take", 0, 0).is(3, "stone", 1, 1, 1);
    }

    private void takeThrows() {
        Run run = says(15, "Throws `IndexOutOfBoundsException` if there is no such bed or block");
        run.refuses(BOUNDS, "take", 0, 0);
        run.does("quarry", 12, 1);
        run.refuses(BOUNDS, "take", 0, 0);
        run.does("bed", 1);
        run.does("split", 2);
        int[][] wrong = {{-1, 0}, {1, 0}, {LEAST, 0}, {MOST, 0}, {0, -1}, {0, 2}, {0, 12}, {0, LEAST}, {0, MOST}, {1, 2}};
        for (int[] w : wrong) {
            run.refuses(BOUNDS, "take", w[0], w[1]);
        }
        run.is(0, "take", 0, 0);
        run = says(15, "Throws `UnsupportedOperationException` if it cannot be taken");
        open(run, 19, 1, 10, 15);
        run.refuses(UNSUPPORTED, "take", 0, 0);
        run.does("fault", 0, 14);
        run.refuses(UNSUPPORTED, "take", 0, 1).is(0, "take", 0, 2).refuses(UNSUPPORTED, "take", 0, 2);
        run = says(15, "Throws `IllegalStateException` if there are 60 stones");
        open(run, 9, 1, 2, 4, 6);
        run.does("fault", 0, 6);
        run.stones(58, 1, 1, 1);
        run.is(58, "take", 0, 0).is(59, "take", 0, 1).refuses(STATE, "take", 0, 2).refuses(STATE, "stone", 1, 1, 1);
        run.refuses(UNSUPPORTED, "take", 0, 3).refuses(UNSUPPORTED, "take", 0, 0).refuses(BOUNDS, "take", 0, 4);
        run.is(1, "blocks", 0).is('h', "state", 59);
    }

    private void pass() {
        Run run = says(16, "- `days`: 1 to 99");
        run.refuses(ARGUMENT, "pass", 0).refuses(ARGUMENT, "pass", 100).is(1, "pass", 1).is(100, "pass", 99);
        says(16, "Returns the day then, 0 at first.").is(1, "pass", 1).is(3, "pass", 2);
        run = says(16, "Returns the day then");
        // as many calls as one object is used for
        for (int i = 1; i <= 512; i++) {
            run.is(99 * i, "pass", 99);
        }
        run = says(16, "Throws `IllegalArgumentException` if a number is out of range");
        for (int wrong : new int[] {0, 100, -1, LEAST, MOST}) {
            run.refuses(ARGUMENT, "pass", wrong);
        }
        run.is(5, "pass", 5);
    }

    private void frost() {
        Run run = says(17, "Returns how many stones suffer.");
        run.is(0, "frost");
        open(run, 6, 1, 1, 3);
        run.does("take", 0, 0);
        run.is(1, "frost").is(0, "frost");
        run.does("take", 0, 1);
        run.does("take", 0, 2);
        run.stones(1, 5, 1, 1);
        run.is(2, "frost").is(5, "size", 3, 'l').is(2, "frost").is(0, "frost");
    }
}
