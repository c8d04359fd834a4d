import java.math.BigInteger;

/** "Exceptions", and the promises 48 to 51. */
final class YardSentences extends Sentences {
    private static final long GREATEST = Long.MAX_VALUE;
    private static final String CHANGES_NOTHING = "A method that throws an exception changes nothing.";
    private static final String LISTED_FIRST = "If several exceptions apply, the exception listed first is thrown.";

    YardSentences(Document document) {
        super(document);
    }

    @Override
    void all() {
        changesNothing();
        changesNothingWhenFull();
        firstOfStones();
        firstOfQuarry();
        firstOfWall();
        firstOfLoads();
        firstOfArch();
        firstOfGapsAndOldWalls();
        wallShare();
        meanLoad();
        meanOfGreatLoads();
        checksum();
        isTrue();
    }

    /** A yard with something of all there is: 14 stones, the last one in the hand. */
    private static void busy(Run run) {
        run.does("pass", 3);
        run.does("friction", 33);
        run.does("runs", 3);
        run.does("quarry", 20, 4);
        run.does("bed", 2);
        run.does("bed", 1);
        run.does("split", 5);
        run.does("split", 9);
        run.does("fault", 0, 6);
        run.does("take", 0, 0);
        run.does("pass", 2);
        run.does("take", 1, 0);
        run.does("build", 6, 4, 1);
        run.lay(3, 2, 1, 0, true, 0);
        run.lay(3, 1, 1, 0, true, 3);
        run.lay(6, 2, 1, 0, false, 0);
        run.pack(2, 1, 1, 0);
        run.lay(4, 1, 1, 1, true, 0);
        run.lay(2, 1, 1, 1, true, 4);
        run.lay(6, 1, 1, 1, false, 0);
        run.cope(2, 1, 3);
        run.does("press", true, 0, 11L);
        run.does("press", false, 5, 7L);
        run.does("push", 0, 60L);
        run.does("push", 1, 3L);
        int gone = run.hold(4, 4, 4);
        run.does("dress", 2, 'h', 3);
        run.does("throwAway");
        run.does("stone", 2, 1, 1);
        run.does("stone", 1, 1, 2);
        run.does("arch", 3);
        run.does("crown", 10, 900);
        run.does("voussoir", 2, 10, 20, 50, 300);
        run.does("voussoir", 1, 10, 20, 60, 400);
        run.does("set");
        run.does("gap", 3, 7);
        run.does("gap", 5, 9);
        run.does("mend", 1000L);
        for (int i = 0; i < 5; i++) {
            run.does("oldWall");
        }
        run.does("meet", 1, 0, false);
        run.does("meet", 2, 3, true);
        run.does("meet", 3, 1, false);
        run.hold(9, 3, 5);
        run.does("dress", 1, 'l', 2);
        run.is('g', "state", gone);
    }

    private void changesNothing() {
        Run run = says("Exceptions", CHANGES_NOTHING);
        busy(run);
        run.refuses(ARGUMENT, "stone", 10, 1, 1).refuses(BOUNDS, "state", 14).refuses(BOUNDS, "size", 14, 'l');
        run.refuses(ARGUMENT, "size", 0, 'x').refuses(ELEMENT, "heap", 4).refuses(BOUNDS, "lift", 14);
        run.refuses(UNSUPPORTED, "lift", 2).refuses(STATE, "lift", 0);
        run.refuses(BOUNDS, "dress", 4, 'l', 1).refuses(ARGUMENT, "dress", 0, 'x', 1).refuses(ARGUMENT, "dress", 0, 'l', 0);
        run.refuses(UNSUPPORTED, "dress", 0, 'l', 7).refuses(UNSUPPORTED, "dress", 0, 'h', 3);
        run.refuses(ARGUMENT, "quarry", 3, 4).refuses(ARGUMENT, "bed", 5).refuses(ARGUMENT, "split", 20);
        run.refuses(BOUNDS, "fault", 2, 0).refuses(BOUNDS, "fault", 0, 20).refuses(BOUNDS, "blocks", 2);
        run.refuses(BOUNDS, "take", 0, 3).refuses(BOUNDS, "take", 2, 0);
        for (int block = 0; block < 3; block++) {
            run.refuses(UNSUPPORTED, "take", 0, block);
        }
        run.refuses(ARGUMENT, "pass", 0).refuses(ARGUMENT, "build", 6, 3, 1).refuses(ARGUMENT, "runs", 5);
        run.refuses(BOUNDS, "lay", 3, true, 0).refuses(BOUNDS, "lay", 0, true, 6).refuses(UNSUPPORTED, "lay", 2, true, 0);
        run.refuses(BOUNDS, "pack", 3).refuses(UNSUPPORTED, "pack", 0).refuses(UNSUPPORTED, "cope");
        run.refuses(BOUNDS, "at", 0, true, 6).refuses(BOUNDS, "at", 3, true, 0).refuses(ELEMENT, "at", 2, true, 0);
        run.refuses(BOUNDS, "width", 3).refuses(BOUNDS, "room", 3).refuses(BOUNDS, "isComplete", 3).refuses(BOUNDS, "throughs", 3);
        run.refuses(BOUNDS, "fill", 3, true).refuses(ELEMENT, "fill", 2, true);
        run.refuses(BOUNDS, "fillAt", 3, true, 0).refuses(ELEMENT, "fillAt", 2, true, 0).refuses(ELEMENT, "fillAt", 0, true, 0);
        run.refuses(BOUNDS, "press", true, 6, 1L).refuses(ARGUMENT, "press", true, 0, 0L);
        run.refuses(BOUNDS, "loadOn", 14).refuses(UNSUPPORTED, "loadOn", 0).refuses(UNSUPPORTED, "loadOn", 13);
        run.refuses(BOUNDS, "push", 3, 0L).refuses(ARGUMENT, "push", 0, -1L).refuses(ARGUMENT, "friction", 91);
        run.refuses(ARGUMENT, "arch", 9).refuses(BOUNDS, "voussoir", 3, 1, 1, 0, 0).refuses(ARGUMENT, "voussoir", 0, 0, 1, 0, 0);
        run.refuses(UNSUPPORTED, "voussoir", 2, 1, 1, 0, 0).refuses(ARGUMENT, "crown", 5, 4).refuses(UNSUPPORTED, "strike");
        run.refuses(UNSUPPORTED, "thrust").is(1, "set").refuses(UNSUPPORTED, "set");
        run.refuses(ARGUMENT, "gap", 0, 0).refuses(ARGUMENT, "mend", -1L);
        run.refuses(BOUNDS, "meet", 5, 0, true).refuses(ARGUMENT, "meet", 1, 1, true).refuses(UNSUPPORTED, "meet", 0, 2, false);
        run.refuses(UNSUPPORTED, "meet", 0, 1, true).refuses(BOUNDS, "phase", 5);
    }

    private void changesNothingWhenFull() {
        Run run = says("Exceptions", CHANGES_NOTHING);
        busy(run);
        run.does("throwAway");
        run.stones(46, 1, 1, 1);
        for (int i = 2; i <= 10; i++) {
            run.does("gap", i, 5);
        }
        for (int i = 5; i < 8; i++) {
            run.does("oldWall");
        }
        for (int i = 2; i < 6; i++) {
            run.does("bed", 1);
        }
        run.refuses(STATE, "stone", 1, 1, 1).refuses(STATE, "take", 2, 0).refuses(STATE, "bed", 1).refuses(STATE, "throwAway");
        run.refuses(STATE, "dress", 0, 'l', 1).refuses(STATE, "lay", 0, true, 0).refuses(STATE, "pack", 0).refuses(STATE, "cope");
        run.refuses(STATE, "gap", 1, 1).refuses(STATE, "oldWall");
        run.does("push", 0, 0L);
        run.refuses(ELEMENT, "mover").refuses(ELEMENT, "fall");
        run.does("voussoir", 0, 10, 20, 80, 500);
        run.does("set");
        run.does("set");
        run.is(true, "strike").refuses(UNSUPPORTED, "set").refuses(UNSUPPORTED, "strike").refuses(UNSUPPORTED, "crown", 0, 999);
    }

    private void firstOfStones() {
        Run run = says("Exceptions", LISTED_FIRST);
        run.refuses(BOUNDS, "size", 0, 'x').refuses(BOUNDS, "dress", 4, 'x', 0).refuses(ARGUMENT, "dress", 3, 'x', 0);
        run.refuses(ARGUMENT, "dress", 3, 'l', 0).refuses(STATE, "dress", 3, 'l', 13);
        run.stones(60, 1, 1, 1);
        run.refuses(ARGUMENT, "stone", 0, 1, 1).refuses(STATE, "stone", 1, 1, 1).refuses(BOUNDS, "size", 60, 'x');
        run.does("lift", 0);
        run.refuses(BOUNDS, "lift", 60).refuses(UNSUPPORTED, "lift", 0).refuses(STATE, "lift", 1);
        run.refuses(BOUNDS, "dress", 4, 'l', 1).refuses(BOUNDS, "dress", 4, 'x', 1).refuses(BOUNDS, "dress", -1, 'l', 0);
        run.refuses(ARGUMENT, "dress", 0, 'x', 13).refuses(ARGUMENT, "dress", 0, 'l', 0).refuses(UNSUPPORTED, "dress", 0, 'l', 1);
    }

    private void firstOfQuarry() {
        Run run = says("Exceptions", LISTED_FIRST);
        run.refuses(ARGUMENT, "bed", 0).refuses(STATE, "bed", 1).refuses(STATE, "split", 0).refuses(STATE, "split", -1);
        run.does("quarry", 9, 1);
        for (int i = 0; i < 6; i++) {
            run.does("bed", 1);
        }
        run.refuses(ARGUMENT, "bed", 5).refuses(STATE, "bed", 4).refuses(BOUNDS, "take", 6, 0);
        run.does("split", 4);
        run.does("fault", 0, 0);
        run.stones(60, 1, 1, 1);
        run.refuses(BOUNDS, "take", 6, 0).refuses(BOUNDS, "take", 0, 2).refuses(UNSUPPORTED, "take", 0, 0).refuses(STATE, "take", 0, 1);
    }

    private void firstOfWall() {
        Run run = says("Exceptions", LISTED_FIRST);
        run.hold(1, 1, 1);
        run.refuses(STATE, "lay", -1, true, -1).refuses(STATE, "pack", -1).refuses(STATE, "cope").refuses(STATE, "at", -1, true, -1);
        run.refuses(STATE, "fill", -1, true).refuses(STATE, "fillAt", -1, true, -1).refuses(STATE, "width", -1);
        run.does("throwAway");
        run.does("runs", 4);
        run.does("build", 4, 4, 1);
        run.refuses(STATE, "lay", -1, true, -1).refuses(STATE, "lay", 0, true, 0).refuses(STATE, "pack", -1).refuses(STATE, "pack", 0);
        run.refuses(STATE, "cope").refuses(BOUNDS, "at", 3, true, 0).refuses(BOUNDS, "at", 0, true, 4);
        run.refuses(BOUNDS, "fill", 3, true).refuses(BOUNDS, "fillAt", 3, true, 0).refuses(ELEMENT, "fillAt", 0, true, 0);
        run.lay(4, 1, 4, 0, true, 0);
        run.lay(2, 1, 3, 1, true, 0);
        run.lay(2, 1, 3, 1, true, 2);
        run.lay(2, 1, 2, 2, true, 0);
        run.lay(2, 1, 2, 2, true, 2);
        run.refuses(ARGUMENT, "runs", 0).refuses(UNSUPPORTED, "runs", 1).refuses(ARGUMENT, "runs", 5);
        run.cope(2, 1, 4);
        run.refuses(STATE, "lay", 3, true, 0).refuses(STATE, "lay", 0, true, 0).refuses(STATE, "cope");
        run.hold(3, 1, 1);
        run.refuses(BOUNDS, "lay", 3, true, 0).refuses(BOUNDS, "lay", 0, true, 4).refuses(BOUNDS, "lay", -1, false, -1);
        run.refuses(UNSUPPORTED, "lay", 0, true, 0).refuses(BOUNDS, "pack", 3).refuses(UNSUPPORTED, "pack", 0).refuses(UNSUPPORTED, "cope");
    }

    private void firstOfLoads() {
        Run run = says("Exceptions", LISTED_FIRST);
        run.refuses(STATE, "press", true, -1, 0L).refuses(STATE, "press", true, 0, 0L).refuses(STATE, "press", true, 0, 1L);
        run.refuses(STATE, "push", -1, -1L).refuses(STATE, "push", 0, -1L).refuses(STATE, "mover").refuses(STATE, "fall");
        run.does("build", 4, 4, 1);
        run.refuses(BOUNDS, "press", true, 4, 0L).refuses(BOUNDS, "press", true, -1, 1L).refuses(ARGUMENT, "press", true, 0, 0L);
        run.refuses(ELEMENT, "press", true, 0, 1L).refuses(BOUNDS, "push", 3, -1L).refuses(BOUNDS, "push", -1, 0L);
        run.refuses(ARGUMENT, "push", 2, -1L).refuses(ELEMENT, "mover").refuses(ELEMENT, "fall").refuses(BOUNDS, "loadOn", 0);
    }

    private void firstOfArch() {
        Run run = says("Exceptions", LISTED_FIRST);
        run.refuses(STATE, "voussoir", -1, 0, 0, 5, 4).refuses(STATE, "voussoir", 0, 0, 0, 5, 4).refuses(STATE, "crown", 5, 4);
        run.refuses(STATE, "set").refuses(STATE, "strike").refuses(STATE, "thrust");
        run.does("arch", 2);
        run.refuses(BOUNDS, "voussoir", 2, 0, 0, 5, 4).refuses(ARGUMENT, "voussoir", 1, 0, 0, 5, 4).refuses(UNSUPPORTED, "thrust");
        run.does("voussoir", 1, 1, 1, 900, 999);
        run.refuses(UNSUPPORTED, "thrust");
        run.does("voussoir", 1, 1, 1, 0, 999);
        run.does("set");
        run.refuses(BOUNDS, "voussoir", 2, 0, 1, 0, 0).refuses(ARGUMENT, "voussoir", 1, 0, 1, 0, 0);
        run.refuses(ARGUMENT, "voussoir", 1, 1, 1, 5, 4).refuses(UNSUPPORTED, "voussoir", 1, 1, 1, 0, 0).refuses(UNSUPPORTED, "set");
        run.does("voussoir", 0, 1, 1, 0, 999);
        run.does("set");
        run.does("strike");
        run.refuses(ARGUMENT, "crown", 5, 4).refuses(UNSUPPORTED, "crown", 4, 5);
    }

    private void firstOfGapsAndOldWalls() {
        Run run = says("Exceptions", LISTED_FIRST);
        run.refuses(ARGUMENT, "mend", -1L).refuses(ELEMENT, "mend", 0L).refuses(BOUNDS, "meet", 0, 0, false);
        for (int i = 0; i < 10; i++) {
            run.does("gap", 1, 1);
        }
        run.refuses(ARGUMENT, "gap", 0, 1).refuses(ARGUMENT, "gap", 1, 1000).refuses(STATE, "gap", 1, 1);
        run.does("oldWall");
        run.does("oldWall");
        run.does("meet", 1, 0, false);
        run.refuses(BOUNDS, "meet", 2, 2, false).refuses(BOUNDS, "meet", -1, -1, true).refuses(ARGUMENT, "meet", 0, 0, false);
        run.refuses(ARGUMENT, "meet", 1, 1, true).refuses(UNSUPPORTED, "meet", 0, 1, false).refuses(BOUNDS, "meet", 0, 2, false);
    }

    private void wallShare() {
        Run run = says(48, "Returns their number divided by that of all, both converted to float.");
        run.does("build", 4, 4, 0);
        run.stones(1, 1, 1, 1);
        run.is(0.0f, "wallShare");
        run.lay(4, 2, 1, 0, true, 0);
        run.is(0.5f, "wallShare");
        run.lay(4, 2, 1, 0, false, 0);
        run.is(2.0f / 3.0f, "wallShare").is(3, "stone", 1, 1, 1).is(0.5f, "wallShare");
        run.pack(1, 1, 1, 0);
        run.is(3.0f / 5.0f, "wallShare");
        run.cope(1, 1, 4);
        run.is(4.0f / 6.0f, "wallShare");
        run.hold(1, 1, 1);
        run.is(4.0f / 7.0f, "wallShare");
        run.does("throwAway");
        run.is(4.0f / 7.0f, "wallShare");
        run.stones(53, 1, 1, 1);
        run.is(4.0f / 60.0f, "wallShare");
        run.does("build", 4, 4, 0);
        run.is(0.0f, "wallShare");
        run = says(48, "Returns their number divided by that of all, both converted to float.");
        run.does("build", 4, 4, 0);
        run.lay(4, 1, 4, 0, true, 0);
        run.is(1.0f, "wallShare");
        run = says(48, "Throws `ArithmeticException` if there are none");
        run.refuses(ARITHMETIC, "wallShare");
        run.does("build", 4, 4, 0);
        run.refuses(ARITHMETIC, "wallShare");
        run.stones(1, 1, 1, 1);
        run.is(0.0f, "wallShare");
    }

    private void meanLoad() {
        Run run = says(49, "Throws `ArithmeticException` if there are none");
        run.refuses(ARITHMETIC, "meanLoad");
        run.does("build", 4, 4, 0);
        run.refuses(ARITHMETIC, "meanLoad");
        run.does("stone", 4, 2, 1);
        run.refuses(ARITHMETIC, "meanLoad");
        run.does("lift", 0);
        run.refuses(ARITHMETIC, "meanLoad");
        run.does("lay", 0, true, 0);
        run.is(40.0, "meanLoad");
        run.does("push", 0, 1000L);
        run.does("fall");
        run.refuses(ARITHMETIC, "meanLoad");
        run.does("lift", 0);
        run.does("lay", 0, true, 0);
        run.does("build", 4, 4, 0);
        run.refuses(ARITHMETIC, "meanLoad");
        run = says(49, "Returns the sum, by the numbers of the stones, each converted to double, divided by their number, converted to "
                + "double.");
        run.does("build", 4, 4, 0);
        run.lay(4, 2, 1, 0, true, 0);
        run.is(40.0, "meanLoad");
        run.lay(4, 2, 2, 0, false, 0);
        run.is(60.0, "meanLoad");
        run.lay(1, 2, 1, 1, true, 0);
        run.is((50.0 + 80.0 + 10.0) / 3.0, "meanLoad");
        run.pack(1, 1, 1, 0);
        run.stones(1, 1, 1, 1);
        run.is((50.0 + 80.0 + 10.0) / 3.0, "meanLoad");
        run = says(49, "Returns the sum");
        run.does("build", 4, 4, 0);
        run.lay(4, 1, 4, 0, true, 0);
        run.cope(1, 1, 4);
        run.is((100.0 + 20.0) / 2.0, "meanLoad");
    }

    private void meanOfGreatLoads() {
        for (int heavy = 0; heavy < 3; heavy++) {
            Run run = says(49, "by the numbers of the stones, each converted to double");
            run.does("build", 4, 4, 0);
            run.lay(1, 1, 1, 0, true, 0);
            run.lay(1, 1, 1, 0, true, 1);
            run.lay(1, 1, 1, 0, true, 2);
            run.does("press", true, heavy, (1L << 55) - 5);
            double sum = 0.0;
            for (int stone = 0; stone < 3; stone++) {
                sum += stone == heavy ? (double) (1L << 55) : 5.0;
            }
            run.is(sum / 3.0, "meanLoad");
        }
        Run run = says(49, "each converted to double");
        run.does("build", 4, 4, 0);
        run.lay(4, 2, 1, 0, true, 0);
        run.lay(4, 2, 1, 0, false, 0);
        run.does("press", true, 0, GREATEST);
        run.does("press", false, 0, GREATEST);
        run.is((double) GREATEST, "meanLoad");
    }

    private void checksum() {
        Run run = says(50, "Returns 7 at first, then for each stone 31 times itself plus its state as a number, then 31 times itself plus "
                + "its length; then 31 times itself plus the pins of the wall, 0 without one, and 31 times itself plus the money.");
        run.is(7L * 31 * 31, "checksum");
        run.does("stone", 3, 2, 1);
        long one = (7L * 31 + 'h') * 31 + 3;
        run.is(one * 31 * 31, "checksum");
        run.does("build", 4, 4, 0);
        run.is(one * 31 * 31, "checksum");
        run.does("lift", 0);
        one = (7L * 31 + 'n') * 31 + 3;
        run.is(one * 31 * 31, "checksum");
        run.does("lay", 0, true, 0);
        run.lay(1, 1, 1, 0, true, 3);
        long two = (((7L * 31 + 'w') * 31 + 3) * 31 + 'w') * 31 + 1;
        run.is((two * 31 + 1) * 31, "checksum");
        run.does("gap", 2, 1);
        run.does("mend", 500L);
        run.is((two * 31 + 1) * 31 + 1000, "checksum");
        run.does("build", 4, 4, 0);
        two = (((7L * 31 + 'g') * 31 + 3) * 31 + 'g') * 31 + 1;
        run.is(two * 31 * 31 + 1000, "checksum");
        run = says(50, "and 31 times itself plus the money");
        BigInteger sum = BigInteger.valueOf(7);
        BigInteger many = BigInteger.valueOf(31);
        for (int i = 0; i < 60; i++) {
            run.does("stone", 1 + i % 9, 1, 1);
            sum = sum.multiply(many).add(BigInteger.valueOf('h')).multiply(many).add(BigInteger.valueOf(1 + i % 9));
        }
        run.does("gap", 1, 1);
        run.does("mend", GREATEST);
        run.is(sum.multiply(many).multiply(many).add(BigInteger.valueOf(GREATEST)).longValue(), "checksum");
    }

    private void isTrue() {
        Run run = says(51, "Checks that each stone is in one place, that no stone of the wall rests on air, that no joint runs up too "
                + "far, and that an arch whose centre was struck stands.");
        run.is(true, "isTrue");
        busy(run);
        run.is(true, "isTrue");
        run = says(51, "Returns whether all of it holds.");
        run.is(true, "isTrue");
        run.does("build", 4, 4, 0);
        run.is(true, "isTrue");
        run.lay(4, 1, 4, 0, true, 0);
        run.is(true, "isTrue");
        run.cope(4, 1, 4);
        run.is(true, "isTrue");
        run.does("push", 0, 10000L);
        run.is(2, "fall").is(true, "isTrue");
        run.hold(1, 1, 1);
        run.is(true, "isTrue");
        run.does("throwAway");
        run.is(true, "isTrue");
        run.does("arch", 2);
        run.is(true, "isTrue");
        run.does("voussoir", 0, 10, 20, 900, 999);
        run.does("voussoir", 1, 10, 20, 0, 1);
        run.does("set");
        run.does("set");
        run.is(true, "isTrue").is(false, "strike").is(true, "isTrue");
    }
}
