/** "The wall", "Joints", and the promises 18 to 20, 23, 24, 26 and 27. */
final class WallSentences extends Sentences {
    WallSentences(Document document) {
        super(document);
    }

    @Override
    void all() {
        ranges();
        courses();
        newWall();
        skins();
        heightOfCourse();
        placesOfTheWall();
        nothingLiesThere();
        onTheCourseBelow();
        pins();
        tails();
        joints();
        throughsAre();
        throughsLie();
        whereJointsAre();
        howFarJointsRun();
        refusedByJoints();
        build();
        runs();
        runsThrows();
        lay();
        layThrows();
        at();
        width();
        isComplete();
        throughs();
    }

    /** A wall on which joints may run up as far as can be. */
    private static void wall(Run run, int length, int base, int batter) {
        run.does("runs", 4);
        run.does("build", length, base, batter);
    }

    private void ranges() {
        Run run = says("The wall", "A wall has a length, 4 to 24, a base, 4 to 12, and a batter, 0 to 2");
        run.refuses(ARGUMENT, "build", 3, 4, 0).refuses(ARGUMENT, "build", 25, 4, 0);
        run.refuses(ARGUMENT, "build", 4, 3, 0).refuses(ARGUMENT, "build", 4, 13, 0);
        run.refuses(ARGUMENT, "build", 4, 4, -1).refuses(ARGUMENT, "build", 4, 4, 3);
        run.is(8, "build", 4, 4, 0).is(4, "width", 0).refuses(BOUNDS, "at", 0, true, 4).refuses(ELEMENT, "at", 0, true, 3);
        run.is(6, "build", 24, 12, 2).is(12, "width", 0);
        run.refuses(BOUNDS, "at", 0, true, 24).refuses(ELEMENT, "at", 0, true, 23);
        run.refuses(ARGUMENT, "build", 3, 4, 0).refuses(ARGUMENT, "build", 4, 13, 0).refuses(ARGUMENT, "build", 4, 4, 3);
    }

    private void courses() {
        Run run = says("The wall", "the course 0 is as wide as the base, each one above less by the batter");
        run.does("build", 4, 12, 2);
        for (int course = 0; course < 6; course++) {
            run.is(12 - 2 * course, "width", course);
        }
        run.does("build", 4, 9, 1);
        for (int course = 0; course < 8; course++) {
            run.is(9 - course, "width", course);
        }
        run.does("build", 4, 7, 0);
        run.is(7, "width", 0).is(7, "width", 7);
        run = says("The wall", "there are as many courses as are at least 2 wide, 8 at most");
        int[][] due = {{4, 0, 8}, {12, 0, 8}, {4, 1, 3}, {5, 1, 4}, {8, 1, 7}, {9, 1, 8}, {10, 1, 8}, {12, 1, 8}, {4, 2, 2}, {5, 2, 2},
            {6, 2, 3}, {11, 2, 5}, {12, 2, 6}};
        for (int[] d : due) {
            run.is(d[2], "build", 4, d[0], d[1]).is(d[0] - d[1] * (d[2] - 1), "width", d[2] - 1);
            run.refuses(BOUNDS, "width", d[2]);
        }
    }

    private void newWall() {
        Run run = says("The wall", "A new wall takes the place of the one before, whose stones, loads and pushes are gone.");
        wall(run, 4, 5, 0);
        run.lay(4, 2, 1, 0, true, 0);
        run.lay(4, 1, 1, 0, false, 0);
        run.pack(1, 1, 1, 0);
        run.cope(2, 1, 5);
        int inHeap = 4;
        run.does("stone", 4, 3, 2);
        int held = run.hold(4, 3, 1);
        run.does("press", true, 0, 1000L);
        run.does("press", true, 3, 1000L);
        run.does("push", 0, 77L);
        run.does("push", 7, Long.MAX_VALUE);
        run.is(3, "build", 5, 4, 1);
        for (int stone = 0; stone < 4; stone++) {
            run.is('g', "state", stone).refuses(UNSUPPORTED, "loadOn", stone).refuses(UNSUPPORTED, "lift", stone);
        }
        run.is('h', "state", inHeap).is('n', "state", held);
        run.is(0, "room", 0).is(false, "isComplete", 0).is(0, "throughs", 0).refuses(BOUNDS, "at", 0, true, 5);
        run.refuses(ELEMENT, "at", 0, true, 0).refuses(ELEMENT, "at", 0, false, 3).refuses(ELEMENT, "mover");
        run.refuses(ARITHMETIC, "meanLoad").refuses(ELEMENT, "press", true, 0, 1L);
        run.is(0, "push", 0, 1L).is(0, "lay", 0, true, 0).is(60, "loadOn", held).is(1L, "press", true, 3, 1L);
        run = says("The wall", "pushes are gone");
        wall(run, 4, 4, 0);
        for (int course = 0; course < 8; course++) {
            run.does("push", course, 5L + course);
        }
        run.does("build", 4, 4, 0);
        for (int course = 0; course < 8; course++) {
            run.is(0, "push", course, 1L);
        }
        run = says("The wall", "whose stones, loads and pushes are gone");
        wall(run, 4, 4, 0);
        run.lay(4, 2, 1, 0, true, 0);
        run.lay(4, 2, 1, 0, false, 0);
        run.pack(4, 2, 1, 0);
        run.does("build", 4, 4, 0);
        run.lay(4, 2, 1, 0, true, 0);
        run.lay(4, 2, 1, 0, false, 0);
        run.is(16, "room", 0).is(40, "loadOn", 3);
        run = says("The wall", "A new wall takes the place of the one before");
        run.does("build", 4, 4, 0);
        for (int course = 0; course < 8; course++) {
            run.lay(4, 1, 4, course, true, 0);
        }
        run.is(2, "build", 4, 4, 2).is('g', "state", 7).is(true, "isTrue").is(8, "build", 4, 4, 0);
        run.refuses(ELEMENT, "at", 7, true, 0).refuses(ELEMENT, "at", 2, false, 3).is(false, "isComplete", 7).is(true, "isTrue");
    }

    private void skins() {
        Run run = says("The wall", "Each course has a front and a back skin, of the places from 0 to the length less 1.");
        wall(run, 5, 6, 0);
        run.hold(1, 1, 1);
        run.refuses(BOUNDS, "lay", 0, true, -1).refuses(BOUNDS, "lay", 0, true, 5).refuses(BOUNDS, "lay", 0, false, 5);
        run.is(0, "lay", 0, true, 0);
        run.is(0, "at", 0, true, 0).refuses(ELEMENT, "at", 0, false, 0).refuses(ELEMENT, "at", 0, true, 1);
        run.is(1, "stone", 1, 1, 1).is(0, "lift", 1).is(0, "lay", 0, false, 4);
        run.is(1, "at", 0, false, 4).refuses(ELEMENT, "at", 0, true, 4).refuses(ELEMENT, "at", 0, false, 3);
        run.refuses(BOUNDS, "at", 0, false, 5).refuses(BOUNDS, "at", 0, true, -1);
        run.lay(1, 1, 1, 0, true, 4);
        run.lay(1, 1, 1, 0, false, 0);
        run.is(2, "at", 0, true, 4).is(3, "at", 0, false, 0);
    }

    private void heightOfCourse() {
        Run run = says("The wall", "A course has as its height that of the first stone that is laid in it, as long as some is.");
        wall(run, 8, 6, 0);
        run.lay(1, 3, 1, 0, true, 0);
        run.lay(1, 2, 1, 0, true, 1);
        int held = run.hold(1, 4, 1);
        run.refuses(UNSUPPORTED, "lay", 0, true, 2).is(1, "lay", 1, true, 0);
        run.does("push", 1, 1000L);
        run.is(1, "fall").is('h', "state", held);
        run.lay(1, 1, 1, 1, true, 0);
        run.hold(1, 4, 1);
        run.refuses(UNSUPPORTED, "lay", 1, true, 1);
        run.does("throwAway");
        run = says("The wall", "as long as some is");
        wall(run, 8, 6, 0);
        run.lay(1, 3, 1, 0, true, 0);
        run.lay(1, 2, 1, 0, true, 1);
        run.does("push", 0, 1000L);
        run.is(1, "fall").is('h', "state", 0);
        run.hold(1, 4, 1);
        run.refuses(UNSUPPORTED, "lay", 0, true, 0);
        run.does("dress", 0, 'h', 1);
        run.is(1, "lay", 0, true, 2).is(1, "fall").is(1, "fall").refuses(ELEMENT, "fall");
        run.hold(1, 4, 1);
        run.is(0, "lay", 0, true, 0);
        run.hold(1, 3, 1);
        run.is(1, "lay", 0, true, 1);
    }

    private void placesOfTheWall() {
        Run run = says("The wall", "A stone can be laid at a place, and all behind it that its length needs, in a skin, if all of "
                + "these are places of the wall");
        wall(run, 6, 6, 0);
        run.hold(3, 1, 1);
        run.refuses(UNSUPPORTED, "lay", 0, true, 4).refuses(UNSUPPORTED, "lay", 0, true, 5).refuses(BOUNDS, "lay", 0, true, 6);
        run.is(0, "lay", 0, true, 3).is(0, "at", 0, true, 3).is(0, "at", 0, true, 5).refuses(ELEMENT, "at", 0, true, 2);
        run.hold(6, 1, 1);
        run.refuses(UNSUPPORTED, "lay", 0, false, 1).is(0, "lay", 0, false, 0).is(1, "at", 0, false, 5);
        run.hold(7, 1, 1);
        run.refuses(UNSUPPORTED, "lay", 1, false, 0).is(2, "throwAway");
        run.hold(1, 1, 1);
        run.is(0, "lay", 1, false, 5);
        run = says("The wall", "if all of these are places of the wall");
        wall(run, 24, 6, 0);
        run.hold(9, 1, 1);
        run.refuses(UNSUPPORTED, "lay", 0, true, 16).refuses(UNSUPPORTED, "lay", 0, true, 23).is(0, "lay", 0, true, 15);
        run.hold(1, 1, 6);
        run.is(0, "lay", 0, true, 0);
        run.hold(2, 1, 6);
        run.refuses(UNSUPPORTED, "lay", 1, false, 23).refuses(BOUNDS, "lay", 1, false, 24);
    }

    private void nothingLiesThere() {
        Run run = says("The wall", "nothing lies there");
        wall(run, 8, 6, 0);
        run.lay(2, 1, 1, 0, true, 3);
        run.hold(2, 1, 1);
        run.refuses(UNSUPPORTED, "lay", 0, true, 2).refuses(UNSUPPORTED, "lay", 0, true, 3).refuses(UNSUPPORTED, "lay", 0, true, 4);
        run.is(0, "lay", 0, true, 1);
        run.hold(2, 1, 1);
        run.refuses(UNSUPPORTED, "lay", 0, true, 0).is(0, "lay", 0, true, 5);
        run.hold(4, 1, 1);
        run.refuses(UNSUPPORTED, "lay", 0, true, 2).is(0, "lay", 0, false, 2);
        run.hold(1, 1, 1);
        run.refuses(UNSUPPORTED, "lay", 0, true, 6).is(0, "lay", 0, true, 7).is(4, "at", 0, true, 7);
    }

    private void onTheCourseBelow() {
        Run run = says("The wall", "the course below, if there is one, has stones in this skin at all of these");
        wall(run, 8, 6, 0);
        run.hold(3, 1, 1);
        run.refuses(UNSUPPORTED, "lay", 1, true, 0).refuses(UNSUPPORTED, "lay", 7, true, 0).is(0, "lay", 0, true, 2);
        run.hold(3, 1, 1);
        run.refuses(UNSUPPORTED, "lay", 1, true, 1).refuses(UNSUPPORTED, "lay", 1, true, 3).refuses(UNSUPPORTED, "lay", 1, false, 2);
        run.refuses(UNSUPPORTED, "lay", 2, true, 2).is(0, "lay", 1, true, 2);
        run.hold(3, 1, 1);
        run.refuses(UNSUPPORTED, "lay", 3, true, 2).is(0, "lay", 2, true, 2);
        run.lay(2, 1, 1, 0, true, 0);
        run.lay(1, 1, 1, 0, true, 6);
        run.hold(1, 1, 1);
        run.refuses(UNSUPPORTED, "lay", 1, true, 5).is(0, "lay", 1, true, 6);
    }

    private void pins() {
        Run run = says("The wall", "its height is that of the course, or 1 less, which takes a pin");
        wall(run, 8, 6, 0);
        run.lay(1, 3, 1, 0, true, 0);
        run.hold(1, 4, 1);
        run.refuses(UNSUPPORTED, "lay", 0, true, 1);
        run.does("dress", 0, 'h', 1);
        run.is(0, "lay", 0, true, 1);
        run.hold(1, 2, 1);
        run.is(1, "lay", 0, true, 2);
        run.hold(1, 1, 1);
        run.refuses(UNSUPPORTED, "lay", 0, true, 3).is(1, "lay", 1, true, 0);
        run.hold(1, 2, 1);
        run.refuses(UNSUPPORTED, "lay", 1, true, 1).is(2, "lay", 0, false, 7);
        run.hold(1, 2, 6);
        run.is(3, "lay", 0, true, 4);
        run.hold(1, 4, 1);
        run.is(3, "lay", 2, true, 0);
    }

    private void tails() {
        Run run = says("The wall", "its tail and that of what lies in the other skin are together at most the width, at each of "
                + "these places");
        wall(run, 8, 6, 1);
        run.lay(2, 1, 3, 0, true, 3);
        run.hold(2, 1, 4);
        run.refuses(UNSUPPORTED, "lay", 0, false, 2).refuses(UNSUPPORTED, "lay", 0, false, 3);
        run.refuses(UNSUPPORTED, "lay", 0, false, 4).is(0, "lay", 0, false, 1);
        run.hold(2, 1, 3);
        run.is(0, "lay", 0, false, 3);
        run.hold(3, 1, 4);
        run.is(0, "lay", 0, false, 5);
        run.hold(1, 1, 3);
        run.refuses(UNSUPPORTED, "lay", 0, true, 2).refuses(UNSUPPORTED, "lay", 0, true, 7);
        run.does("dress", 0, 't', 1);
        run.is(0, "lay", 0, true, 2);
        run.lay(2, 1, 3, 1, true, 3);
        run.hold(2, 1, 3);
        run.refuses(UNSUPPORTED, "lay", 1, false, 3);
        run.does("dress", 0, 't', 1);
        run.is(0, "lay", 1, false, 3);
        run = says("The wall", "are together at most the width");
        wall(run, 4, 12, 0);
        run.lay(4, 1, 6, 0, true, 0);
        run.lay(4, 1, 6, 0, false, 0);
        run.is(true, "isComplete", 0).is(0, "throughs", 0).is(0, "room", 0);
    }

    private void joints() {
        Run run = says("The wall", "and no joint would run up too far");
        run.does("build", 6, 6, 0);
        run.lay(2, 1, 1, 0, true, 0);
        run.lay(4, 1, 1, 0, true, 2);
        run.hold(2, 1, 1);
        run.refuses(UNSUPPORTED, "lay", 1, true, 0).refuses(UNSUPPORTED, "lay", 1, true, 2).is(0, "lay", 1, true, 1);
    }

    private void throughsAre() {
        Run run = says("The wall", "A stone whose tail is the width or more is a through");
        wall(run, 8, 5, 1);
        run.hold(2, 1, 4);
        run.is(0, "lay", 0, true, 0).is(0, "throughs", 0).refuses(ELEMENT, "at", 0, false, 0);
        run.hold(2, 1, 5);
        run.is(0, "lay", 0, false, 2).is(1, "throughs", 0).is(1, "at", 0, true, 2).is(1, "at", 0, false, 3);
        run.hold(2, 1, 6);
        run.is(0, "lay", 0, true, 4).is(2, "throughs", 0).is(2, "at", 0, false, 4).is(2, "at", 0, true, 5);
        run.hold(1, 1, 4);
        run.is(0, "lay", 1, true, 2).is(1, "throughs", 1).is(3, "at", 1, false, 2);
        run.hold(1, 1, 3);
        run.is(0, "lay", 1, true, 3).is(1, "throughs", 1).refuses(ELEMENT, "at", 1, false, 3);
        run.lay(1, 1, 3, 2, false, 2);
        run.is(1, "throughs", 2).is(5, "at", 2, true, 2);
        run.lay(1, 1, 2, 3, false, 2);
        run.is(1, "throughs", 3).is(6, "at", 3, true, 2).is(2, "throughs", 0).is(1, "throughs", 1);
    }

    private void throughsLie() {
        Run run = says("The wall", "it is laid in both skins, for both of which all this must hold, tails aside");
        wall(run, 8, 4, 0);
        run.lay(1, 2, 1, 0, true, 2);
        run.lay(1, 2, 1, 0, false, 5);
        run.hold(2, 2, 4);
        for (int place : new int[] {1, 2, 4, 5}) {
            run.refuses(UNSUPPORTED, "lay", 0, true, place).refuses(UNSUPPORTED, "lay", 0, false, place);
        }
        run.refuses(UNSUPPORTED, "lay", 0, true, 7).is(0, "lay", 0, false, 3);
        run.hold(2, 2, 5);
        run.is(0, "lay", 0, true, 0);
        run.hold(1, 1, 6);
        run.refuses(UNSUPPORTED, "lay", 1, true, 2).refuses(UNSUPPORTED, "lay", 1, false, 2);
        run.refuses(UNSUPPORTED, "lay", 1, true, 5).refuses(UNSUPPORTED, "lay", 1, false, 5);
        run.is(1, "lay", 0, false, 6);
        run.hold(1, 2, 1);
        run.refuses(UNSUPPORTED, "lay", 0, true, 0).refuses(UNSUPPORTED, "lay", 0, false, 1);
        run.refuses(UNSUPPORTED, "lay", 0, true, 6).refuses(UNSUPPORTED, "lay", 0, false, 6).is(1, "lay", 0, true, 7);
        run = says("The wall", "for both of which all this must hold");
        run.does("build", 6, 4, 0);
        run.lay(6, 1, 1, 0, true, 0);
        run.lay(3, 1, 1, 0, false, 0);
        run.lay(3, 1, 1, 0, false, 3);
        run.hold(3, 1, 4);
        run.refuses(UNSUPPORTED, "lay", 1, true, 0).refuses(UNSUPPORTED, "lay", 1, true, 3).is(0, "lay", 1, true, 1);
        run = says("The wall", "for both of which all this must hold");
        run.does("build", 6, 4, 0);
        run.lay(6, 1, 1, 0, false, 0);
        run.lay(3, 1, 1, 0, true, 0);
        run.lay(3, 1, 1, 0, true, 3);
        run.hold(3, 1, 4);
        run.refuses(UNSUPPORTED, "lay", 1, false, 0).refuses(UNSUPPORTED, "lay", 1, false, 3).is(0, "lay", 1, false, 2);
        run = says("The wall", "tails aside");
        wall(run, 4, 4, 0);
        run.hold(4, 1, 6);
        run.is(0, "lay", 0, true, 0).is(true, "isComplete", 0).is(0, "room", 0);
    }

    private void whereJointsAre() {
        Run run = says("Joints", "A joint is in a skin between two places if a stone begins or ends there that lies in that course");
        run.does("build", 8, 6, 0);
        run.lay(4, 1, 1, 0, true, 2);
        run.hold(2, 1, 1);
        run.refuses(UNSUPPORTED, "lay", 1, true, 2).refuses(UNSUPPORTED, "lay", 1, true, 4).is(0, "lay", 1, true, 3);
        run.lay(8, 1, 1, 0, false, 0);
        run.hold(2, 1, 1);
        run.is(0, "lay", 1, false, 2);
        run.lay(2, 1, 1, 0, true, 0);
        run.hold(3, 1, 1);
        run.is(0, "lay", 1, true, 0);
        run = says("Joints", "the ends of the wall aside");
        run.does("build", 4, 4, 0);
        for (int course = 0; course < 8; course++) {
            run.lay(4, 1, 1, course, true, 0);
            run.lay(4, 1, 1, course, false, 0);
        }
        run.is(true, "isTrue").is(1, "runs", 1);
    }

    private void howFarJointsRun() {
        Run run = says("Joints", "A joint runs up as far as courses one above the other have it there, in one skin");
        run.does("build", 6, 6, 0);
        run.lay(2, 1, 1, 0, true, 0);
        run.lay(4, 1, 1, 0, true, 2);
        run.lay(6, 1, 1, 1, true, 0);
        run.lay(4, 1, 1, 0, false, 0);
        run.lay(2, 1, 1, 0, false, 4);
        run.lay(2, 1, 1, 2, true, 0);
        run.lay(4, 1, 1, 2, true, 2);
        run.lay(2, 1, 1, 1, false, 0);
        run.lay(4, 1, 1, 1, false, 2);
        run.hold(2, 1, 1);
        run.refuses(UNSUPPORTED, "lay", 2, false, 0).is(0, "lay", 2, false, 4).is(1, "runs", 1);
        for (int most = 1; most <= 4; most++) {
            Run told = says("Joints", "it may be as many as told, 1 to 4, 1 at first");
            if (most > 1) {
                told.is(1, "runs", most);
            }
            told.does("build", 4, 4, 0);
            for (int course = 0; course < most; course++) {
                told.lay(2, 1, 1, course, true, 0);
                told.lay(2, 1, 1, course, true, 2);
            }
            told.hold(2, 1, 1);
            told.refuses(UNSUPPORTED, "lay", most, true, 0).refuses(UNSUPPORTED, "lay", most, true, 2);
            told.is(0, "lay", most, true, 1);
        }
    }

    private void refusedByJoints() {
        Run run = says("Joints", "A stone is refused if by it a joint of it would run up farther.");
        run.does("build", 8, 6, 0);
        run.lay(3, 1, 1, 0, true, 0);
        run.lay(5, 1, 1, 0, true, 3);
        run.hold(3, 1, 1);
        run.refuses(UNSUPPORTED, "lay", 1, true, 0).refuses(UNSUPPORTED, "lay", 1, true, 3).is(0, "lay", 1, true, 4);
        run.hold(4, 1, 1);
        run.is(0, "lay", 1, true, 0);
        run.hold(1, 1, 1);
        run.is(0, "lay", 1, true, 7);
        run.hold(1, 1, 1);
        run.refuses(UNSUPPORTED, "lay", 2, true, 7).refuses(UNSUPPORTED, "lay", 2, true, 6).is(0, "lay", 2, true, 0);
        run = says("Joints", "a joint of it");
        run.does("build", 4, 6, 0);
        run.lay(3, 1, 1, 0, true, 0);
        run.lay(2, 1, 1, 1, true, 0);
        run.hold(1, 1, 1);
        run.is(0, "lay", 0, true, 3);
        run.hold(2, 1, 1);
        run.is(0, "lay", 1, true, 2).is(true, "isTrue");
        for (boolean isFront : new boolean[] {true, false}) {
            run = says("Joints", "A stone is refused if by it a joint of it would run up farther.");
            run.does("build", 6, 4, 0);
            run.lay(1, 1, 1, 0, isFront, 0);
            run.lay(4, 1, 1, 0, isFront, 1);
            run.lay(1, 1, 1, 0, isFront, 5);
            run.hold(1, 1, 1);
            run.refuses(UNSUPPORTED, "lay", 1, isFront, 0).refuses(UNSUPPORTED, "lay", 1, isFront, 5);
            run.refuses(UNSUPPORTED, "lay", 1, isFront, 1).refuses(UNSUPPORTED, "lay", 1, isFront, 4);
            run.is(0, "lay", 1, isFront, 3);
        }
    }

    private void build() {
        says(18, "Returns how many courses it can have.").is(8, "build", 4, 4, 0).is(2, "build", 4, 4, 2);
        Run run = says(18, "Throws `IllegalArgumentException` if a number is out of range");
        int[][] wrong = {{3, 4, 0}, {25, 4, 0}, {4, 3, 0}, {4, 13, 0}, {4, 4, -1}, {4, 4, 3}, {LEAST, 4, 0}, {MOST, 4, 0}, {4, LEAST, 0},
            {4, MOST, 0}, {4, 4, LEAST}, {4, 4, MOST}, {-4, 4, 0}, {4, -4, 0}};
        for (int[] w : wrong) {
            run.refuses(ARGUMENT, "build", w[0], w[1], w[2]);
        }
        wall(run, 4, 4, 0);
        run.lay(4, 1, 4, 0, true, 0);
        run.cope(1, 1, 4);
        run.does("push", 0, 3L);
        for (int[] w : wrong) {
            run.refuses(ARGUMENT, "build", w[0], w[1], w[2]);
        }
    }

    private void runs() {
        Run run = says(19, "- `courses`: 1 to 4");
        run.refuses(ARGUMENT, "runs", 0).refuses(ARGUMENT, "runs", 5).is(1, "runs", 4).is(4, "runs", 1);
        says(19, "Returns the number before.").is(1, "runs", 2).is(2, "runs", 3).is(3, "runs", 3).is(3, "runs", 1);
        run = says(19, "Throws `IllegalArgumentException` if a number is out of range");
        for (int wrong : new int[] {0, 5, -1, LEAST, MOST}) {
            run.refuses(ARGUMENT, "runs", wrong);
        }
        wall(run, 4, 4, 0);
        run.lay(2, 1, 4, 0, true, 0);
        run.lay(2, 1, 4, 1, true, 0);
        run.refuses(ARGUMENT, "runs", 0).refuses(ARGUMENT, "runs", -1).refuses(ARGUMENT, "runs", 5).is(4, "runs", 4);
    }

    private void runsThrows() {
        for (int high = 1; high <= 4; high++) {
            Run run = says(19, "Throws `UnsupportedOperationException` if a joint of the wall runs up farther");
            wall(run, 4, 4, 0);
            for (int course = 0; course < high; course++) {
                run.lay(1, 1, 1, course, high % 2 == 0, 3);
            }
            for (int fewer = 1; fewer < high; fewer++) {
                run.refuses(UNSUPPORTED, "runs", fewer);
            }
            run.is(4, "runs", high).is(high, "runs", high);
        }
        Run run = says(19, "if a joint of the wall runs up farther");
        wall(run, 4, 4, 0);
        run.lay(4, 1, 4, 0, true, 0);
        run.lay(1, 1, 4, 1, true, 0);
        run.lay(1, 1, 4, 2, true, 0);
        run.refuses(UNSUPPORTED, "runs", 1);
        run.does("push", 2, 10000L);
        run.is(1, "fall").is(4, "runs", 1);
        run = says(19, "if a joint of the wall runs up farther");
        wall(run, 4, 4, 0);
        run.lay(1, 1, 4, 0, true, 0);
        run.lay(1, 1, 4, 1, true, 0);
        run.refuses(UNSUPPORTED, "runs", 1);
        run.does("build", 4, 4, 0);
        run.is(4, "runs", 1);
    }

    private void lay() {
        Run run = says(20, "- `course`: the course, from 0");
        wall(run, 4, 4, 0);
        run.hold(1, 1, 1);
        run.refuses(BOUNDS, "lay", -1, true, 0).is(0, "lay", 0, true, 0);
        run = says(20, "- `place`: the place, from 0");
        wall(run, 4, 4, 0);
        run.hold(1, 1, 1);
        run.refuses(BOUNDS, "lay", 0, true, -1).is(0, "lay", 0, true, 0).is(0, "at", 0, true, 0);
        run = says(20, "Returns how many pins the wall has.");
        wall(run, 4, 4, 0);
        run.lay(2, 2, 1, 0, true, 0);
        run.hold(2, 1, 1);
        run.is(1, "lay", 0, true, 2);
        run.lay(1, 2, 1, 1, true, 0);
        run.hold(1, 1, 1);
        run.is(2, "lay", 1, true, 1);
        run.hold(4, 1, 1);
        run.is(3, "lay", 0, false, 0);
        run.hold(1, 2, 1);
        run.is(3, "lay", 1, false, 0);
    }

    private void layThrows() {
        Run run = says(20, "Throws `IllegalStateException` if there is no wall, or no stone in the hand");
        run.refuses(STATE, "lay", 0, true, 0).refuses(STATE, "lay", -1, true, -1);
        run.hold(1, 1, 1);
        run.refuses(STATE, "lay", 0, true, 0).refuses(STATE, "lay", -1, true, 0);
        wall(run, 4, 4, 1);
        run.does("throwAway");
        run.refuses(STATE, "lay", 0, true, 0).refuses(STATE, "lay", 3, true, 0).refuses(STATE, "lay", 0, true, 4);
        run.lay(4, 1, 4, 0, true, 0);
        run.refuses(STATE, "lay", 0, true, 0);
        run.cope(1, 1, 4);
        run.refuses(STATE, "lay", 0, true, 0).refuses(STATE, "lay", 1, true, 0);
        run = says(20, "Throws `IndexOutOfBoundsException` if the course cannot be, or there is no such place");
        wall(run, 4, 4, 1);
        run.hold(1, 1, 4);
        int[][] wrong = {{-1, 0}, {3, 0}, {8, 0}, {LEAST, 0}, {MOST, 0}, {0, -1}, {0, 4}, {0, 24}, {0, LEAST}, {0, MOST}, {3, 4}, {2, 4}};
        for (int[] w : wrong) {
            run.refuses(BOUNDS, "lay", w[0], true, w[1]).refuses(BOUNDS, "lay", w[0], false, w[1]);
        }
        run.does("throwAway");
        run.lay(4, 1, 4, 0, true, 0);
        run.cope(1, 1, 4);
        run.hold(1, 1, 1);
        for (int[] w : wrong) {
            run.refuses(BOUNDS, "lay", w[0], true, w[1]);
        }
        run.does("build", 4, 4, 0);
        run.refuses(BOUNDS, "lay", 8, true, 0).refuses(UNSUPPORTED, "lay", 7, true, 0);
        run = says(20, "Throws `UnsupportedOperationException` if it cannot be laid there, or there is a cope");
        wall(run, 4, 4, 0);
        run.hold(5, 1, 4);
        run.refuses(UNSUPPORTED, "lay", 0, true, 0);
        run.does("dress", 0, 'l', 1);
        run.does("lay", 0, true, 0);
        run.hold(1, 1, 4);
        run.refuses(UNSUPPORTED, "lay", 0, true, 0).refuses(UNSUPPORTED, "lay", 2, true, 0);
        run.does("cope");
        run.hold(1, 1, 4);
        run.refuses(UNSUPPORTED, "lay", 1, true, 0).refuses(UNSUPPORTED, "lay", 1, true, 3);
    }

    private void at() {
        Run run = says(23, "- `course`: the course, from 0");
        wall(run, 5, 4, 1);
        run.lay(3, 1, 1, 0, true, 1);
        run.refuses(BOUNDS, "at", -1, true, 1).is(0, "at", 0, true, 1);
        run = says(23, "- `place`: the place, from 0");
        wall(run, 5, 4, 1);
        run.lay(5, 1, 1, 0, true, 0);
        run.refuses(BOUNDS, "at", 0, true, -1).is(0, "at", 0, true, 0).is(0, "at", 0, true, 4).refuses(BOUNDS, "at", 0, true, 5);
        run = says(23, "Returns the stone.");
        wall(run, 5, 4, 1);
        run.lay(2, 1, 1, 0, true, 0);
        run.lay(2, 1, 1, 0, true, 2);
        run.lay(2, 1, 1, 0, false, 1);
        run.lay(1, 1, 1, 1, false, 2);
        run.is(0, "at", 0, true, 0).is(0, "at", 0, true, 1).is(1, "at", 0, true, 2).is(1, "at", 0, true, 3);
        run.is(2, "at", 0, false, 1).is(2, "at", 0, false, 2).is(3, "at", 1, false, 2);
        run = says(23, "Throws `IllegalStateException` if there is no wall");
        run.refuses(STATE, "at", 0, true, 0).refuses(STATE, "at", -1, true, -1).refuses(STATE, "at", 8, false, 24);
        run = says(23, "Throws `IndexOutOfBoundsException` if the course cannot be, or there is no such place");
        wall(run, 5, 4, 1);
        int[][] wrong = {{-1, 0}, {3, 0}, {8, 0}, {LEAST, 0}, {MOST, 0}, {0, -1}, {0, 5}, {0, 24}, {0, LEAST}, {0, MOST}, {3, 5}};
        for (int[] w : wrong) {
            run.refuses(BOUNDS, "at", w[0], true, w[1]).refuses(BOUNDS, "at", w[0], false, w[1]);
        }
        run.does("build", 4, 4, 0);
        run.refuses(BOUNDS, "at", 8, true, 0).refuses(ELEMENT, "at", 7, true, 0);
        run = says(23, "Throws `NoSuchElementException` if there is none");
        wall(run, 5, 4, 1);
        run.refuses(ELEMENT, "at", 0, true, 0).refuses(ELEMENT, "at", 2, false, 4);
        run.lay(3, 1, 1, 0, true, 1);
        run.refuses(ELEMENT, "at", 0, true, 0).refuses(ELEMENT, "at", 0, true, 4).refuses(ELEMENT, "at", 0, false, 1);
        run.refuses(ELEMENT, "at", 1, true, 1);
    }

    private void width() {
        Run run = says(24, "- `course`: the course, from 0");
        run.does("build", 4, 4, 0);
        run.refuses(BOUNDS, "width", -1).is(4, "width", 0);
        run = says(24, "Returns the width.");
        run.does("build", 4, 9, 2);
        run.is(9, "width", 0).is(7, "width", 1).is(5, "width", 2).is(3, "width", 3);
        run = says(24, "Throws `IllegalStateException` if there is no wall");
        run.refuses(STATE, "width", 0).refuses(STATE, "width", -1).refuses(STATE, "width", 8);
        dueCourses(24, "width");
    }

    private void isComplete() {
        Run run = says(26, "- `course`: the course, from 0");
        run.does("build", 4, 4, 0);
        run.refuses(BOUNDS, "isComplete", -1).is(false, "isComplete", 0);
        run = says(26, "Returns whether it is.");
        wall(run, 6, 4, 0);
        run.is(false, "isComplete", 0);
        run.lay(5, 1, 1, 0, true, 0);
        run.lay(5, 1, 1, 0, false, 1);
        run.is(false, "isComplete", 0);
        run.lay(1, 1, 1, 0, true, 5);
        run.is(false, "isComplete", 0);
        run.lay(1, 1, 1, 0, false, 0);
        run.is(true, "isComplete", 0).is(false, "isComplete", 1);
        run.lay(6, 1, 4, 1, true, 0);
        run.is(true, "isComplete", 1).is(false, "isComplete", 2).is(false, "isComplete", 7);
        run = says(26, "Throws `IllegalStateException` if there is no wall");
        run.refuses(STATE, "isComplete", 0).refuses(STATE, "isComplete", -1).refuses(STATE, "isComplete", 8);
        dueCourses(26, "isComplete");
    }

    private void throughs() {
        Run run = says(27, "- `course`: the course, from 0");
        run.does("build", 4, 4, 0);
        run.refuses(BOUNDS, "throughs", -1).is(0, "throughs", 0);
        run = says(27, "Returns how many.");
        wall(run, 4, 4, 0);
        run.lay(1, 1, 3, 0, true, 0);
        run.is(0, "throughs", 0);
        for (int place = 1; place < 4; place++) {
            run.lay(1, 1, 4, 0, place == 2, place);
            run.is(place, "throughs", 0);
        }
        run.is(0, "throughs", 1);
        run.does("build", 4, 4, 0);
        run.lay(1, 1, 4, 0, false, 0);
        run.is(1, "throughs", 0);
        run.lay(2, 1, 5, 0, true, 2);
        run.is(2, "throughs", 0);
        run.does("build", 4, 4, 0);
        run.lay(4, 1, 4, 0, true, 0);
        run.is(1, "throughs", 0);
        run = says(27, "Throws `IllegalStateException` if there is no wall");
        run.refuses(STATE, "throughs", 0).refuses(STATE, "throughs", -1).refuses(STATE, "throughs", 8);
        dueCourses(27, "throughs");
    }
}
