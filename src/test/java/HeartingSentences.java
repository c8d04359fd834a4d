/** "Hearting", "Copes", and the promises 21, 22 and 25. */
final class HeartingSentences extends Sentences {
    private static final String WRONG_COURSE = "Throws `IndexOutOfBoundsException` if the course cannot be: it is below 0, above 7, "
            + "or its width would be below 2";

    HeartingSentences(Document document) {
        super(document);
    }

    @Override
    void all() {
        roomOfPlaces();
        roomAndHeight();
        roomAndPacked();
        whatCanBePacked();
        onWhatCopesAre();
        fromTheLeft();
        tailsOfCopes();
        nothingIsLaid();
        pack();
        packThrows();
        cope();
        copeThrows();
        room();
    }

    private static void wall(Run run, int length, int base, int batter) {
        run.does("runs", 4);
        run.does("build", length, base, batter);
    }

    private void roomOfPlaces() {
        Run run = says("Hearting", "The room of a course is, over all places at which both skins have stones, the width less both "
                + "tails, none at a through");
        wall(run, 8, 6, 1);
        run.is(0, "room", 0);
        run.lay(4, 1, 1, 0, true, 0);
        run.is(0, "room", 0);
        run.lay(2, 1, 2, 0, false, 4);
        run.is(0, "room", 0);
        run.lay(3, 1, 4, 0, false, 1);
        run.is(3, "room", 0);
        run.lay(1, 1, 4, 0, true, 5);
        run.is(3, "room", 0);
        run.lay(1, 1, 1, 0, true, 4);
        run.is(6, "room", 0);
        run.lay(1, 1, 6, 0, true, 7);
        run.is(6, "room", 0).is(0, "room", 1);
        run.lay(2, 1, 1, 1, true, 1);
        run.lay(2, 1, 1, 1, false, 2);
        run.is(3, "room", 1).is(6, "room", 0);
        run = says("Hearting", "none at a through");
        wall(run, 4, 4, 0);
        run.lay(2, 4, 6, 0, true, 0);
        run.is(0, "room", 0);
        run.lay(2, 4, 1, 0, true, 2);
        run.lay(2, 4, 1, 0, false, 2);
        run.is(16, "room", 0);
    }

    private void roomAndHeight() {
        Run run = says("Hearting", "times the height of the course");
        wall(run, 4, 4, 0);
        run.lay(2, 3, 1, 0, true, 0);
        run.lay(2, 2, 1, 0, false, 0);
        run.is(12, "room", 0);
        run.lay(2, 2, 1, 0, true, 2);
        run.lay(2, 2, 1, 0, false, 2);
        run.is(24, "room", 0);
        run.lay(4, 1, 1, 1, true, 0);
        run.lay(4, 1, 1, 1, false, 0);
        run.is(8, "room", 1).is(24, "room", 0);
    }

    private void roomAndPacked() {
        Run run = says("Hearting", "less the volumes of stones that were packed in it, and 0 at least");
        wall(run, 4, 4, 0);
        run.lay(2, 2, 1, 0, true, 0);
        run.lay(2, 2, 1, 0, true, 2);
        run.lay(4, 2, 1, 0, false, 0);
        run.is(16, "room", 0);
        run.pack(3, 1, 2, 0);
        run.is(10, "room", 0).is(0, "room", 1);
        run.pack(9, 1, 1, 0);
        run.is(1, "room", 0);
        run.does("press", true, 3, 10000L);
        run.does("press", false, 0, 10000L);
        run.does("push", 0, 100L);
        run.is(1, "fall").is(0, "room", 0).is('p', "state", 3).is('p', "state", 4);
        run.hold(1, 1, 1);
        run.refuses(UNSUPPORTED, "pack", 0);
        run.does("throwAway");
        run.does("lift", 0);
        run.does("lay", 0, true, 0);
        run.is(1, "room", 0);
        run = says("Hearting", "that were packed in it");
        wall(run, 4, 4, 0);
        for (int course = 0; course < 2; course++) {
            run.lay(4, 1, 1, course, true, 0);
            run.lay(4, 1, 1, course, false, 0);
        }
        run.pack(3, 1, 1, 1);
        run.is(8, "room", 0).is(5, "room", 1);
        run.pack(8, 1, 1, 0);
        run.is(0, "room", 0).is(5, "room", 1);
    }

    private void whatCanBePacked() {
        Run run = says("Hearting", "A stone can be packed if its volume is at most the room.");
        wall(run, 4, 4, 0);
        run.lay(4, 1, 1, 0, true, 0);
        run.lay(4, 1, 1, 0, false, 0);
        run.is(8, "room", 0);
        run.hold(9, 1, 1);
        run.refuses(UNSUPPORTED, "pack", 0);
        run.does("dress", 0, 'l', 1);
        run.is(0, "pack", 0);
        run.hold(1, 1, 1);
        run.refuses(UNSUPPORTED, "pack", 0);
    }

    private void onWhatCopesAre() {
        Run run = says("Copes", "If the highest course that has stones is complete, both skins being full");
        wall(run, 4, 4, 0);
        run.hold(1, 1, 6);
        run.refuses(UNSUPPORTED, "cope");
        run.does("throwAway");
        run.lay(4, 1, 1, 0, true, 0);
        run.hold(1, 1, 6);
        run.refuses(UNSUPPORTED, "cope");
        run.does("throwAway");
        run.lay(3, 1, 1, 0, false, 1);
        run.hold(1, 1, 6);
        run.refuses(UNSUPPORTED, "cope");
        run.does("throwAway");
        run.lay(1, 1, 1, 0, false, 0);
        run.lay(3, 1, 4, 1, true, 0);
        run.hold(1, 1, 6);
        run.refuses(UNSUPPORTED, "cope").is(0, "lay", 1, true, 3);
        run.hold(1, 1, 6);
        run.is(1, "cope").is(true, "isTrue");
        run = says("Copes", "both skins being full");
        wall(run, 4, 4, 0);
        run.lay(4, 1, 1, 0, false, 0);
        run.hold(1, 1, 6);
        run.refuses(UNSUPPORTED, "cope");
        run = says("Copes", "the highest course that has stones");
        wall(run, 4, 4, 2);
        run.lay(4, 1, 4, 0, true, 0);
        run.lay(4, 1, 2, 1, true, 0);
        run.hold(4, 1, 2);
        run.is(4, "cope");
    }

    private void fromTheLeft() {
        Run run = says("Copes", "copes are put on it from the left, one beside the other, within the length");
        wall(run, 6, 4, 0);
        run.lay(3, 1, 4, 0, true, 0);
        run.lay(3, 1, 4, 0, true, 3);
        run.hold(7, 1, 4);
        run.refuses(UNSUPPORTED, "cope");
        run.does("throwAway");
        run.hold(2, 1, 4);
        run.is(2, "cope").is(1, "press", true, 0, 1L).is(2, "press", false, 1, 1L).is(5, "press", true, 2, 5L);
        run.hold(3, 1, 4);
        run.is(5, "cope").is(1, "press", true, 2, 1L).is(2, "press", false, 4, 1L).is(7, "press", true, 5, 7L);
        run.hold(2, 1, 4);
        run.refuses(UNSUPPORTED, "cope");
        run.does("dress", 0, 'l', 1);
        run.is(6, "cope").is(1, "press", true, 5, 1L);
        run.hold(1, 1, 4);
        run.refuses(UNSUPPORTED, "cope");
    }

    private void tailsOfCopes() {
        Run run = says("Copes", "each with a tail as long as that course is wide at least");
        wall(run, 4, 5, 1);
        run.lay(4, 1, 5, 0, true, 0);
        run.hold(1, 1, 4);
        run.refuses(UNSUPPORTED, "cope");
        run.does("throwAway");
        run.lay(4, 1, 4, 1, true, 0);
        run.hold(1, 1, 3);
        run.refuses(UNSUPPORTED, "cope");
        run.does("throwAway");
        run.hold(1, 1, 4);
        run.is(1, "cope");
        run.hold(1, 1, 6);
        run.is(2, "cope");
        run = says("Copes", "as long as that course is wide at least");
        wall(run, 4, 7, 0);
        run.lay(4, 1, 3, 0, true, 0);
        run.lay(4, 1, 4, 0, false, 0);
        run.hold(1, 1, 6);
        run.refuses(UNSUPPORTED, "cope");
        run = says("Copes", "as long as that course is wide at least");
        wall(run, 4, 6, 0);
        run.lay(4, 1, 3, 0, true, 0);
        run.lay(4, 1, 3, 0, false, 0);
        run.hold(1, 1, 6);
        run.is(1, "cope");
    }

    private void nothingIsLaid() {
        Run run = says("Copes", "With a cope on the wall, nothing is laid any more.");
        wall(run, 4, 4, 0);
        run.lay(4, 2, 1, 0, true, 0);
        run.lay(4, 2, 1, 0, false, 0);
        run.hold(1, 1, 4);
        run.does("cope");
        run.hold(1, 2, 1);
        run.refuses(UNSUPPORTED, "lay", 1, true, 0).refuses(UNSUPPORTED, "lay", 1, true, 3).refuses(UNSUPPORTED, "lay", 0, true, 0);
        run.is(14, "pack", 0);
        run.hold(4, 2, 1);
        run.refuses(UNSUPPORTED, "lay", 1, false, 0);
        run.does("push", 0, 1000L);
        run.is(2, "fall").is(0, "lay", 0, true, 0);
    }

    private void pack() {
        Run run = says(21, "- `course`: the course, from 0");
        wall(run, 4, 4, 0);
        run.lay(4, 1, 1, 0, true, 0);
        run.lay(4, 1, 1, 0, false, 0);
        run.hold(1, 1, 1);
        run.refuses(BOUNDS, "pack", -1).is(7, "pack", 0);
        run = says(21, "Returns the room that is left.");
        wall(run, 4, 4, 0);
        run.lay(4, 1, 1, 0, true, 0);
        run.lay(4, 1, 1, 0, false, 0);
        run.hold(7, 1, 1);
        run.is(1, "pack", 0);
        run.hold(1, 1, 1);
        run.is(0, "pack", 0).is(0, "room", 0);
    }

    private void packThrows() {
        Run run = says(21, "Throws `IllegalStateException` if there is no wall, or no stone in the hand");
        run.refuses(STATE, "pack", 0).refuses(STATE, "pack", -1);
        run.hold(1, 1, 1);
        run.refuses(STATE, "pack", 0).refuses(STATE, "pack", 8);
        run.does("throwAway");
        wall(run, 4, 4, 0);
        run.refuses(STATE, "pack", 0).refuses(STATE, "pack", 8).refuses(STATE, "pack", -1);
        run.lay(4, 1, 1, 0, true, 0);
        run.lay(4, 1, 1, 0, false, 0);
        run.refuses(STATE, "pack", 0);
        run = says(21, WRONG_COURSE);
        run.hold(1, 1, 1);
        for (int[] wall : new int[][] {{4, 0, 8}, {8, 1, 7}, {9, 1, 8}, {7, 2, 3}}) {
            run.does("build", 4, wall[0], wall[1]);
            run.refuses(UNSUPPORTED, "pack", wall[2] - 1);
            for (int wrong : new int[] {wall[2], -1, 8, LEAST, MOST}) {
                run.refuses(BOUNDS, "pack", wrong);
            }
        }
        run = says(21, "Throws `UnsupportedOperationException` if its volume is above the room");
        wall(run, 4, 4, 0);
        run.hold(1, 1, 1);
        run.refuses(UNSUPPORTED, "pack", 0).refuses(UNSUPPORTED, "pack", 7).is(0, "lay", 0, true, 0);
        run.lay(1, 1, 1, 0, false, 0);
        run.hold(3, 1, 1);
        run.refuses(UNSUPPORTED, "pack", 0).refuses(UNSUPPORTED, "pack", 1);
        run.does("dress", 0, 'l', 1);
        run.is(0, "pack", 0);
        run.hold(1, 1, 1);
        run.refuses(UNSUPPORTED, "pack", 0);
    }

    private void cope() {
        Run run = says(22, "Returns how far the copes go.");
        wall(run, 24, 4, 0);
        run.lay(9, 1, 4, 0, true, 0);
        run.lay(9, 1, 4, 0, true, 9);
        run.lay(6, 1, 4, 0, true, 18);
        run.hold(9, 1, 4);
        run.is(9, "cope");
        run.hold(9, 1, 4);
        run.is(18, "cope");
        run.hold(1, 1, 4);
        run.is(19, "cope");
        run.hold(5, 1, 4);
        run.is(24, "cope");
        run.hold(1, 1, 4);
        run.refuses(UNSUPPORTED, "cope");
        run = says(22, "Returns how far the copes go.");
        wall(run, 24, 4, 0);
        run.lay(9, 1, 4, 0, true, 0);
        run.lay(9, 1, 4, 0, true, 9);
        run.lay(6, 1, 4, 0, true, 18);
        for (int i = 1; i <= 24; i++) {
            run.hold(1, 1, 4);
            run.is(i, "cope");
        }
        run.hold(1, 1, 4);
        run.refuses(UNSUPPORTED, "cope").is(20, "loadOn", 26).is(360, "loadOn", 0).is(240, "loadOn", 2);
    }

    private void copeThrows() {
        Run run = says(22, "Throws `IllegalStateException` if there is no wall, or no stone in the hand");
        run.refuses(STATE, "cope");
        run.hold(1, 1, 4);
        run.refuses(STATE, "cope");
        run.does("throwAway");
        wall(run, 4, 4, 0);
        run.refuses(STATE, "cope");
        run.lay(3, 1, 4, 0, true, 0);
        run.refuses(STATE, "cope");
        run.lay(1, 1, 4, 0, true, 3);
        run.refuses(STATE, "cope");
        run.cope(4, 1, 4);
        run.refuses(STATE, "cope");
        run = says(22, "Throws `UnsupportedOperationException` if there is no stone, the highest course with stones is not complete, "
                + "or the cope does not fit");
        wall(run, 4, 4, 0);
        run.hold(4, 1, 4);
        run.refuses(UNSUPPORTED, "cope").is(0, "lay", 0, true, 0);
        run.lay(1, 1, 4, 1, true, 0);
        run.hold(4, 1, 4);
        run.refuses(UNSUPPORTED, "cope");
        run.does("push", 1, 1000L);
        run.is(1, "fall").is(4, "cope");
        run.hold(1, 1, 4);
        run.refuses(UNSUPPORTED, "cope");
        run = says(22, "or the cope does not fit");
        wall(run, 4, 4, 0);
        run.lay(4, 1, 4, 0, true, 0);
        run.hold(5, 1, 4);
        run.refuses(UNSUPPORTED, "cope");
        run.does("dress", 0, 'l', 1);
        run.does("dress", 0, 't', 1);
        run.refuses(UNSUPPORTED, "cope");
    }

    private void room() {
        Run run = says(25, "- `course`: the course, from 0");
        run.does("build", 4, 4, 0);
        run.refuses(BOUNDS, "room", -1).is(0, "room", 0);
        run = says(25, "Returns the room.");
        wall(run, 24, 12, 0);
        run.is(0, "room", 0);
        for (int place = 0; place < 24; place += 8) {
            run.lay(8, 4, 1, 0, true, place);
            run.lay(8, 4, 1, 0, false, place);
        }
        run.is(960, "room", 0).is(0, "room", 1).is(0, "room", 7);
        run = says(25, "Throws `IllegalStateException` if there is no wall");
        run.refuses(STATE, "room", 0).refuses(STATE, "room", -1).refuses(STATE, "room", 8);
        dueCourses(25, "room");
    }
}
