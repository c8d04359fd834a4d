/** "Loads", "Pushes", and the promises 30 to 35. */
final class LoadSentences extends Sentences {
    private static final long GREATEST = Long.MAX_VALUE;

    LoadSentences(Document document) {
        super(document);
    }

    @Override
    void all() {
        whereLoadsAre();
        loadsStay();
        loadsAddUp();
        passedOn();
        throughsAndCopes();
        cut();
        greatLoads();
        pushes();
        greatPushes();
        friction();
        mover();
        falls();
        fallsByOnePlace();
        copesFall();
        staysBehind();
        pins();
        press();
        pressThrows();
        loadOn();
        push();
        frictionTold();
        moverTold();
        fall();
    }

    private static void wall(Run run, int length, int base, int batter) {
        run.does("runs", 4);
        run.does("build", length, base, batter);
    }

    private void whereLoadsAre() {
        Run run = says("Loads", "A load on a place of a skin is on the stone that is the highest there as it comes, copes included");
        wall(run, 4, 4, 0);
        run.lay(4, 1, 1, 0, true, 0);
        run.lay(4, 1, 1, 0, false, 0);
        run.lay(2, 1, 1, 1, true, 0);
        run.is(5, "press", true, 0, 5L).is(10, "press", true, 1, 5L).is(3, "press", true, 2, 3L).is(2, "press", false, 0, 2L);
        run.is(20, "loadOn", 2).is(43, "loadOn", 0).is(22, "loadOn", 1).is(5, "press", false, 3, 3L);
        run = says("Loads", "copes included");
        wall(run, 4, 4, 0);
        run.lay(2, 1, 1, 0, true, 0);
        run.lay(2, 1, 1, 0, true, 2);
        run.lay(4, 1, 1, 0, false, 0);
        int cope = run.cope(3, 1, 4);
        run.is(1, "press", true, 0, 1L).is(2, "press", false, 2, 1L).is(7, "press", true, 3, 7L).is(9, "press", false, 3, 9L);
        run.is(62, "loadOn", cope).is(17 + 10, "loadOn", 1).is(29 + 31, "loadOn", 2).is(10 + 20, "loadOn", 0);
        int last = run.cope(1, 1, 4);
        run.is(4, "press", true, 3, 4L).is(24, "loadOn", last);
    }

    private void loadsStay() {
        Run run = says("Loads", "and stays on that");
        wall(run, 4, 4, 0);
        run.lay(4, 1, 4, 0, true, 0);
        run.does("press", true, 0, 100L);
        run.lay(4, 1, 4, 1, true, 0);
        run.is(80, "loadOn", 1).is(80 + 100 + 80, "loadOn", 0).is(6, "press", true, 0, 6L);
        run.cope(4, 1, 4);
        run.is(80, "loadOn", 2).is(80 + 6 + 80, "loadOn", 1).is(80 + 100 + 166, "loadOn", 0);
        run.does("push", 1, 100000L);
        run.is(2, "fall").is(180, "loadOn", 0).is(101, "press", false, 2, 1L);
    }

    private void loadsAddUp() {
        Run run = says("Loads", "loads add up, up to the greatest long");
        wall(run, 4, 4, 0);
        run.lay(4, 1, 1, 0, true, 0);
        run.lay(4, 1, 1, 0, false, 0);
        run.is(GREATEST - 1, "press", true, 0, GREATEST - 1).is(GREATEST, "press", true, 1, 1L).is(GREATEST, "press", true, 2, 1L);
        run.is(GREATEST, "press", true, 3, GREATEST).is(GREATEST, "loadOn", 0).is(20, "loadOn", 1);
        run.is(2, "press", false, 0, 2L).is(GREATEST, "press", false, 0, GREATEST - 1).is(GREATEST, "loadOn", 1);
        run = says("Loads", "up to the greatest long");
        wall(run, 4, 4, 0);
        run.lay(4, 1, 1, 0, true, 0);
        run.is(GREATEST - 21, "press", true, 0, GREATEST - 21).is(GREATEST - 1, "loadOn", 0);
        run.is(GREATEST - 20, "press", true, 0, 1L).is(GREATEST, "loadOn", 0);
        run.is(GREATEST - 19, "press", true, 0, 1L).is(GREATEST, "loadOn", 0);
    }

    private void passedOn() {
        Run run = says("Loads", "A stone passes its own weight, the loads on it and what comes to it from above on to the stones "
                + "below, in equal parts by its places in skins");
        wall(run, 6, 6, 0);
        run.lay(2, 1, 1, 0, true, 0);
        run.lay(4, 1, 1, 0, true, 2);
        run.lay(3, 1, 1, 1, true, 1);
        run.lay(1, 1, 1, 2, true, 3);
        run.does("press", true, 1, 10L);
        run.is(5, "loadOn", 3).is(15 + 10 + 5, "loadOn", 2).is(10 + 10, "loadOn", 0).is(20 + 20, "loadOn", 1);
        run.lay(1, 2, 1, 3, true, 3);
        run.is(10, "loadOn", 4).is(15, "loadOn", 3).is(40, "loadOn", 2).is(10 + 13, "loadOn", 0).is(20 + 26, "loadOn", 1);
        run = says("Loads", "What a stone has is all of that.");
        wall(run, 4, 4, 0);
        run.lay(4, 1, 1, 0, true, 0);
        run.is(20, "loadOn", 0);
        run.does("press", true, 0, 7L);
        run.is(27, "loadOn", 0);
        run.lay(2, 2, 3, 1, true, 2);
        run.is(87, "loadOn", 0);
    }

    private void throughsAndCopes() {
        Run run = says("Loads", "a through or a cope having each of its places twice");
        wall(run, 4, 4, 0);
        run.lay(2, 1, 4, 0, true, 0);
        run.lay(2, 1, 1, 0, true, 2);
        run.lay(2, 1, 2, 0, false, 2);
        int through = run.lay(3, 1, 4, 1, true, 0);
        run.is(60, "loadOn", through).is(40 + 40, "loadOn", 0).is(10 + 10, "loadOn", 1).is(20 + 10, "loadOn", 2);
        run.lay(1, 1, 1, 1, true, 3);
        run.is(10 + 10 + 5, "loadOn", 1);
        run.lay(1, 1, 2, 1, false, 3);
        run.is(20 + 10 + 10, "loadOn", 2);
        int cope = run.cope(4, 1, 4);
        run.is(80, "loadOn", cope).is(60 + 60, "loadOn", through).is(40 + 80, "loadOn", 0);
        run.is(10 + 20 + 5 + 10, "loadOn", 1).is(20 + 20 + 10 + 10, "loadOn", 2);
        run = says("Loads", "a through or a cope having each of its places twice");
        wall(run, 4, 4, 0);
        run.lay(4, 1, 4, 0, true, 0);
        run.lay(3, 1, 1, 1, false, 0);
        run.is(80 + 15, "loadOn", 0);
    }

    private void cut() {
        Run run = says("Loads", "a stone below gets the whole times how many of these are on it, divided by how many there are, cut, "
                + "without being rounded on the way");
        wall(run, 4, 4, 0);
        run.lay(2, 1, 1, 0, true, 0);
        run.lay(2, 1, 1, 0, true, 2);
        run.lay(3, 1, 1, 1, true, 0);
        long[] left = {10, 10, 11, 12, 12};
        long[] right = {5, 5, 5, 6, 6};
        for (int more = 0; more < 5; more++) {
            run.is(15 + more, "loadOn", 2).is(10 + left[more], "loadOn", 0).is(10 + right[more], "loadOn", 1);
            run.does("press", true, 0, 1L);
        }
        run = says("Loads", "without being rounded on the way");
        wall(run, 4, 4, 0);
        run.lay(3, 1, 4, 0, true, 0);
        run.lay(1, 1, 4, 0, true, 3);
        run.lay(4, 1, 4, 1, true, 0);
        run.does("press", true, 0, 3L);
        run.is(83, "loadOn", 2).is(60 + 62, "loadOn", 0).is(20 + 20, "loadOn", 1);
    }

    private void greatLoads() {
        Run run = says("Loads", "again up to the greatest long");
        wall(run, 4, 4, 0);
        run.lay(4, 1, 1, 0, true, 0);
        run.lay(2, 1, 1, 1, true, 0);
        run.lay(2, 1, 1, 1, true, 2);
        run.lay(3, 1, 1, 2, true, 0);
        run.does("press", true, 0, GREATEST);
        run.is(GREATEST, "loadOn", 3).is(6148914691236517204L + 10, "loadOn", 1).is(3074457345618258602L + 10, "loadOn", 2);
        run.is(GREATEST, "loadOn", 0);
        run.does("press", true, 3, GREATEST);
        run.is(GREATEST, "loadOn", 2).is(GREATEST, "loadOn", 0);
        run = says("Loads", "again up to the greatest long");
        wall(run, 4, 4, 0);
        run.lay(4, 1, 1, 0, true, 0);
        run.lay(4, 1, 1, 1, true, 0);
        run.does("press", true, 0, GREATEST - 40);
        run.is(GREATEST - 20, "loadOn", 1).is(GREATEST, "loadOn", 0);
        run.does("press", true, 0, 1L);
        run.is(GREATEST - 19, "loadOn", 1).is(GREATEST, "loadOn", 0);
        run = says("Loads", "again up to the greatest long");
        wall(run, 4, 4, 0);
        run.lay(4, 1, 1, 0, true, 0);
        run.lay(4, 1, 1, 1, true, 0);
        run.does("press", true, 0, GREATEST - 41);
        run.is(GREATEST - 21, "loadOn", 1).is(GREATEST - 1, "loadOn", 0);
    }

    private void pushes() {
        Run run = says("Pushes", "A push, told for a course, is on all of its stones, by their places in skins: a stone has the push "
                + "times its places, divided by all places of the course that have stones, cut, likewise.");
        wall(run, 6, 4, 0);
        run.lay(1, 1, 2, 0, true, 0);
        run.lay(4, 1, 2, 0, true, 1);
        run.lay(1, 1, 4, 0, true, 5);
        run.does("push", 0, 35L);
        run.refuses(ELEMENT, "mover").is(35, "push", 0, 36L).refuses(ELEMENT, "mover").is(36, "push", 0, 37L).is(1, "mover");
        run.does("push", 0, 41L);
        run.is(1, "mover").is(41, "push", 0, 42L).is(0, "mover");
        run.does("press", true, 0, 100L);
        run.does("press", true, 1, 100L);
        run.does("push", 0, 38L);
        run.refuses(ELEMENT, "mover").is(38, "push", 0, 39L).is(2, "mover");
        run.lay(1, 1, 2, 0, false, 0);
        run.does("push", 0, 43L);
        run.refuses(ELEMENT, "mover").is(43, "push", 0, 44L).is(2, "mover");
        run.does("push", 0, 0L);
        run.is(0, "push", 1, GREATEST).refuses(ELEMENT, "mover");
    }

    private void greatPushes() {
        Run run = says("Pushes", "cut, likewise");
        wall(run, 6, 4, 0);
        run.lay(3, 1, 1, 0, true, 0);
        run.lay(2, 1, 1, 0, true, 3);
        run.lay(1, 1, 1, 0, true, 5);
        run.does("friction", 90);
        run.does("push", 0, GREATEST);
        // a sixth of the greatest long is 1537228672809129301, a third is 3074457345618258602, half of it 4611686018427387903
        run.does("press", true, 0, 5124095576030430989L);
        run.does("press", true, 3, 3416063717353620659L);
        run.does("press", true, 5, 1708031858676810330L);
        run.is(5124095576030431004L, "loadOn", 0).is(3416063717353620669L, "loadOn", 1).is(1708031858676810335L, "loadOn", 2);
        run.refuses(ELEMENT, "mover");
        run = says("Pushes", "cut, likewise");
        wall(run, 6, 4, 0);
        run.lay(3, 1, 1, 0, true, 0);
        run.does("friction", 90);
        run.does("push", 0, GREATEST);
        run.does("press", true, 0, GREATEST);
        run.is(0, "mover");
        run.lay(1, 1, 1, 0, true, 5);
        run.does("press", true, 5, GREATEST);
        run.refuses(ELEMENT, "mover");
    }

    private void friction() {
        int[][] due = {{10, 100, 10}, {10, 99, 9}, {10, 109, 10}, {10, 110, 11}, {90, 100, 90}, {90, 101, 90}, {90, 102, 91},
            {90, 199, 179}, {50, 99, 49}, {50, 100, 50}, {50, 5, 2}, {33, 199, 65}, {67, 399, 267}};
        for (int[] d : due) {
            Run run = says("Pushes", "It holds if the push on it is at most what it has, divided by 100 and times the friction, the rest "
                    + "of the division times the friction divided by 100 being added");
            wall(run, 4, 4, 0);
            run.lay(1, 1, 1, 0, true, 0);
            if (d[1] > 5) {
                run.does("press", true, 0, d[1] - 5L);
            }
            run.does("friction", d[0]);
            run.is(d[1], "loadOn", 0).is(0, "push", 0, (long) d[2]).refuses(ELEMENT, "mover").refuses(ELEMENT, "fall");
            run.does("push", 0, d[2] + 1L);
            run.is(0, "mover");
        }
        Run run = says("Pushes", "10 to 90, 50 at first");
        run.refuses(ARGUMENT, "friction", 9).refuses(ARGUMENT, "friction", 91).is(50, "friction", 10).is(10, "friction", 90);
        run = says("Pushes", "50 at first");
        wall(run, 4, 4, 0);
        run.lay(4, 1, 1, 0, true, 0);
        run.is(0, "push", 0, 10L).refuses(ELEMENT, "mover").is(10, "push", 0, 11L).is(0, "mover");
        run = says("Pushes", "It holds if the push on it is at most what it has");
        wall(run, 4, 4, 0);
        run.lay(4, 1, 1, 0, true, 0);
        run.does("friction", 90);
        run.does("press", true, 0, GREATEST);
        run.does("push", 0, 8301034833169298226L);
        run.refuses(ELEMENT, "mover");
        run.does("push", 0, 8301034833169298227L);
        run.is(0, "mover");
        run = says("Pushes", "at most what it has");
        wall(run, 4, 4, 0);
        run.lay(1, 1, 1, 0, true, 0);
        run.does("friction", 10);
        run.refuses(ELEMENT, "mover").is(0, "push", 0, 1L).is(0, "mover");
    }

    private void mover() {
        Run run = says("Pushes", "The mover is the stone that does not hold in the highest course, of several the one that begins "
                + "first, the front ahead of the back.");
        wall(run, 6, 4, 0);
        run.lay(2, 1, 2, 0, false, 0);
        run.lay(2, 1, 2, 0, true, 1);
        run.lay(1, 1, 2, 0, true, 0);
        run.lay(4, 1, 2, 0, false, 2);
        run.lay(2, 1, 2, 1, false, 4);
        run.lay(1, 1, 2, 1, true, 2);
        run.does("push", 0, 1000L);
        run.is(2, "mover");
        run.does("press", true, 0, 10000L);
        run.is(0, "mover");
        run.does("press", false, 0, 10000L);
        run.is(1, "mover");
        run.does("press", true, 1, 10000L);
        run.is(3, "mover");
        run.does("push", 1, 1000L);
        run.is(5, "mover");
        run.does("press", true, 2, 10000L);
        run.is(4, "mover");
        run.does("press", false, 4, 10000L);
        run.refuses(ELEMENT, "mover");
        run = says("Pushes", "in the highest course");
        wall(run, 4, 4, 0);
        for (int course = 0; course < 8; course++) {
            run.lay(4, 1, 4, course, true, 0);
            run.does("push", course, 100000L);
            run.is(course, "mover");
        }
        for (int course = 7; course > 0; course--) {
            run.does("push", course, 0L);
            run.is(course - 1, "mover");
        }
    }

    private void falls() {
        Run run = says("Pushes", "If it falls, it and all that lie on what falls, if by one place alone, and all copes, are in the heap "
                + "again, all of them counted, with loads on them gone");
        wall(run, 4, 4, 0);
        run.lay(2, 1, 1, 0, true, 0);
        run.lay(2, 1, 1, 0, true, 2);
        run.lay(4, 1, 1, 0, false, 0);
        run.lay(2, 1, 1, 1, true, 0);
        run.does("press", true, 0, 60L);
        run.does("press", true, 2, 100000L);
        run.does("press", false, 0, 100000L);
        run.is(0, "push", 0, 1000L).is(0, "mover").is(2, "fall");
        run.is('h', "state", 0).is('h', "state", 3).is('w', "state", 1).is('w', "state", 2);
        run.is(0, "heap", 0).is(3, "heap", 1).refuses(ELEMENT, "heap", 2).refuses(ELEMENT, "at", 0, true, 0);
        run.refuses(ELEMENT, "at", 1, true, 1).is(1, "at", 0, true, 2).is(2, "at", 0, false, 0);
        run.refuses(UNSUPPORTED, "loadOn", 3).refuses(ELEMENT, "fall");
        run.does("lift", 3);
        run.does("lay", 0, true, 0);
        run.is(10, "loadOn", 3).is(1, "press", true, 0, 1L).is(3, "mover").is(1, "fall");
        run = says("Pushes", "with loads on them gone");
        wall(run, 4, 4, 0);
        run.lay(4, 1, 4, 0, true, 0);
        run.lay(4, 1, 4, 1, true, 0);
        run.cope(4, 1, 4);
        run.does("press", true, 0, 33L);
        run.does("push", 0, 100000L);
        run.is(3, "fall").is(0, "heap", 0).is(1, "heap", 1).is(2, "heap", 2).is(100000, "push", 0, 0L);
        for (int stone = 2; stone >= 0; stone--) {
            run.does("lift", stone);
            run.does("lay", 2 - stone, true, 0);
            run.is(80, "loadOn", stone);
        }
        run = says("Pushes", "it and all that lie on what falls");
        wall(run, 4, 4, 0);
        run.lay(2, 1, 1, 0, true, 0);
        run.lay(2, 1, 1, 0, true, 2);
        run.does("press", true, 2, 100000L);
        run.is(0, "push", 0, 1000L).is(1, "fall").is('h', "state", 0);
        run.does("lift", 0);
        run.does("lay", 0, false, 0);
        run.lay(1, 1, 1, 1, false, 0);
        run.does("press", false, 1, 100000L);
        run.does("push", 0, 0L);
        run.is(0, "push", 1, 1000L).is(2, "mover").is(1, "fall").is('w', "state", 0).is('h', "state", 2);
        run.lay(1, 1, 1, 0, true, 1);
        run.is(0, "push", 0, 1000L).is(3, "mover").is(1, "fall").is('w', "state", 0).is('w', "state", 1).is(true, "isTrue");
    }

    private void fallsByOnePlace() {
        for (boolean isFront : new boolean[] {true, false}) {
            Run run = says("Pushes", "it and all that lie on what falls, if by one place alone");
            wall(run, 8, 6, 0);
            run.lay(3, 1, 1, 0, isFront, 0);
            run.lay(2, 1, 1, 0, isFront, 3);
            run.lay(3, 1, 1, 0, isFront, 5);
            run.lay(3, 1, 1, 1, isFront, 1);
            run.lay(3, 1, 1, 1, isFront, 4);
            run.lay(1, 1, 1, 1, isFront, 7);
            run.lay(1, 1, 1, 1, isFront, 0);
            run.lay(1, 1, 1, 2, isFront, 1);
            run.lay(1, 1, 1, 2, isFront, 0);
            run.lay(1, 1, 1, 3, isFront, 1);
            run.does("press", isFront, 0, 10000L);
            run.does("press", isFront, 7, 10000L);
            run.does("push", 0, 300L);
            run.is(1, "mover").is(5, "fall");
            String due = "whwhhwwhwh";
            for (int stone = 0; stone < 10; stone++) {
                run.is(due.charAt(stone), "state", stone);
            }
            run.is(true, "isTrue");
        }
        Run run = says("Pushes", "if by one place alone");
        wall(run, 4, 4, 0);
        run.lay(4, 1, 1, 0, true, 0);
        run.lay(3, 1, 1, 0, false, 0);
        run.lay(1, 1, 1, 0, false, 3);
        run.lay(2, 1, 1, 1, true, 0);
        run.lay(2, 1, 1, 1, false, 0);
        run.lay(2, 1, 4, 1, true, 2);
        run.does("press", true, 0, 10000L);
        run.does("press", false, 0, 10000L);
        run.does("push", 0, 400L);
        run.is(2, "mover").is(2, "fall").is('h', "state", 2).is('h', "state", 5).is('w', "state", 3).is('w', "state", 4);
        run.refuses(ELEMENT, "at", 1, true, 2).refuses(ELEMENT, "at", 1, false, 3).is(true, "isTrue");
    }

    private void copesFall() {
        Run run = says("Pushes", "and all copes, are in the heap again, all of them counted");
        wall(run, 6, 4, 0);
        run.lay(3, 1, 4, 0, true, 0);
        run.lay(3, 1, 4, 0, true, 3);
        run.cope(1, 1, 4);
        run.cope(2, 1, 4);
        run.cope(3, 1, 4);
        run.does("press", true, 0, 10000L);
        run.does("push", 0, 300L);
        run.is(1, "mover").is(4, "fall").is('w', "state", 0);
        for (int stone = 1; stone < 5; stone++) {
            run.is('h', "state", stone);
        }
        run.is(60, "loadOn", 0).is(0, "mover").is(300, "push", 0, 0L);
        run.does("lift", 1);
        run.is(0, "lay", 0, true, 3);
        run.does("lift", 2);
        run.is(1, "cope").is(20, "loadOn", 2);
    }

    private void staysBehind() {
        Run run = says("Pushes", "what was packed in courses, their heights as long as some stone is in them, and pushes stay");
        wall(run, 4, 4, 0);
        run.lay(2, 2, 1, 0, true, 0);
        run.lay(2, 1, 1, 0, true, 2);
        run.lay(4, 2, 1, 0, false, 0);
        run.pack(3, 1, 2, 0);
        run.does("press", false, 0, 10000L);
        run.does("push", 0, 100L);
        run.is(1, "fall").is('p', "state", 3).is(2, "room", 0).is(100, "push", 0, 200L);
        run.hold(1, 4, 1);
        run.refuses(UNSUPPORTED, "lay", 0, true, 0);
        run.does("throwAway");
        run.is(1, "fall").refuses(ELEMENT, "fall");
        run.is(200, "push", 0, 100000L).is(1, "fall").is(0, "room", 0).is('p', "state", 3);
        run.hold(4, 4, 1);
        run.is(0, "lay", 0, true, 0).is(0, "room", 0);
        run.lay(4, 4, 1, 0, false, 0);
        run.is(32 - 6, "room", 0).is(100000, "push", 0, 0L);
    }

    private void pins() {
        Run run = says("Pushes", "The pins of the wall are those of stones that lie in it.");
        wall(run, 6, 4, 0);
        run.lay(2, 2, 1, 0, true, 0);
        run.hold(2, 1, 1);
        run.is(1, "lay", 0, true, 2);
        run.hold(2, 1, 4);
        run.is(2, "lay", 0, true, 4);
        run.hold(1, 2, 1);
        run.is(2, "lay", 0, false, 0);
        run.does("press", true, 0, 10000L);
        run.does("press", false, 0, 10000L);
        run.does("push", 0, 100L);
        run.is(1, "mover").is(1, "fall");
        run.hold(1, 2, 1);
        run.is(1, "lay", 0, true, 2).is(4, "mover").is(1, "fall").is(2, "mover").is(1, "fall");
        run.hold(1, 2, 1);
        run.is(0, "lay", 0, true, 3);
        run.does("build", 4, 4, 0);
        run.hold(1, 2, 1);
        run.is(0, "lay", 0, true, 0);
    }

    private void press() {
        Run run = says(30, "- `place`: the place, from 0");
        wall(run, 4, 4, 0);
        run.lay(4, 1, 1, 0, true, 0);
        run.refuses(BOUNDS, "press", true, -1, 1L).is(1, "press", true, 0, 1L).is(2, "press", true, 3, 1L);
        run.refuses(BOUNDS, "press", true, 4, 1L);
        run = says(30, "- `load`: the load, from 1");
        wall(run, 4, 4, 0);
        run.lay(4, 1, 1, 0, true, 0);
        run.refuses(ARGUMENT, "press", true, 0, 0L).is(1, "press", true, 0, 1L);
        run = says(30, "Returns all loads on the stone there.");
        wall(run, 4, 4, 0);
        run.lay(4, 1, 4, 0, true, 0);
        run.is(4, "press", true, 0, 4L).is(9, "press", false, 3, 5L);
        run.lay(1, 1, 1, 1, true, 0);
        run.is(2, "press", true, 0, 2L).is(10, "press", true, 1, 1L).is(11, "press", false, 0, 1L);
    }

    private void pressThrows() {
        Run run = says(30, "Throws `IllegalStateException` if there is no wall");
        run.refuses(STATE, "press", true, 0, 1L).refuses(STATE, "press", true, -1, 0L).refuses(STATE, "press", true, 24, 1L);
        run.refuses(STATE, "press", false, 0, 0L);
        run = says(30, "Throws `IndexOutOfBoundsException` if there is no such place");
        wall(run, 5, 4, 0);
        run.lay(5, 1, 1, 0, true, 0);
        for (int wrong : new int[] {-1, 5, 24, LEAST, MOST}) {
            run.refuses(BOUNDS, "press", true, wrong, 1L).refuses(BOUNDS, "press", false, wrong, 1L);
            run.refuses(BOUNDS, "press", true, wrong, 0L);
        }
        run.is(1, "press", true, 4, 1L);
        run = says(30, "Throws `IllegalArgumentException` if the load is below 1");
        wall(run, 5, 4, 0);
        run.lay(4, 1, 1, 0, true, 0);
        for (long wrong : new long[] {0, -1, Long.MIN_VALUE}) {
            run.refuses(ARGUMENT, "press", true, 0, wrong).refuses(ARGUMENT, "press", true, 4, wrong);
            run.refuses(ARGUMENT, "press", false, 0, wrong);
        }
        run = says(30, "Throws `NoSuchElementException` if there is no stone");
        wall(run, 5, 4, 0);
        run.refuses(ELEMENT, "press", true, 0, 1L);
        run.lay(3, 1, 1, 0, true, 1);
        run.refuses(ELEMENT, "press", true, 0, 1L).refuses(ELEMENT, "press", true, 4, 1L).refuses(ELEMENT, "press", false, 1, 1L);
        run.is(1, "press", true, 1, 1L).is(2, "press", true, 3, 1L);
    }

    private void loadOn() {
        Run run = says(31, "Returns the load, with its own weight.");
        wall(run, 4, 4, 0);
        run.lay(1, 1, 1, 0, true, 0);
        run.lay(1, 1, 4, 0, true, 1);
        run.is(5, "loadOn", 0).is(20, "loadOn", 1);
        run = says(31, "Throws `IndexOutOfBoundsException` if there is no such stone");
        run.refuses(BOUNDS, "loadOn", 0);
        wall(run, 4, 4, 0);
        run.lay(1, 1, 1, 0, true, 0);
        for (int wrong : new int[] {1, -1, 59, 60, LEAST, MOST}) {
            run.refuses(BOUNDS, "loadOn", wrong);
        }
        run = says(31, "Throws `UnsupportedOperationException` if it is not laid in the wall, and no cope");
        wall(run, 4, 4, 0);
        run.does("stone", 4, 1, 1);
        run.refuses(UNSUPPORTED, "loadOn", 0);
        run.does("lift", 0);
        run.refuses(UNSUPPORTED, "loadOn", 0);
        run.does("lay", 0, true, 0);
        run.is(20, "loadOn", 0);
        run.lay(4, 1, 1, 0, false, 0);
        int packed = run.pack(1, 1, 1, 0);
        int cope = run.cope(1, 1, 4);
        int gone = run.hold(1, 1, 1);
        run.does("throwAway");
        run.refuses(UNSUPPORTED, "loadOn", packed).refuses(UNSUPPORTED, "loadOn", gone).is(20, "loadOn", cope);
        run.does("push", 0, 1000L);
        run.does("fall");
        run.refuses(UNSUPPORTED, "loadOn", 0).refuses(UNSUPPORTED, "loadOn", cope).is(20, "loadOn", 1);
        run.does("build", 4, 4, 0);
        run.refuses(UNSUPPORTED, "loadOn", 1);
    }

    private void push() {
        Run run = says(32, "- `course`: the course, from 0");
        wall(run, 4, 4, 0);
        run.refuses(BOUNDS, "push", -1, 0L).is(0, "push", 0, 0L);
        run = says(32, "- `push`: the push, from 0");
        wall(run, 4, 4, 0);
        run.refuses(ARGUMENT, "push", 0, -1L).is(0, "push", 0, 5L).is(5, "push", 0, 0L).is(0, "push", 0, 0L);
        run = says(32, "Returns the push before.");
        wall(run, 4, 4, 0);
        run.is(0, "push", 0, GREATEST).is(GREATEST, "push", 0, 1L).is(0, "push", 7, 8L).is(1, "push", 0, 2L).is(8, "push", 7, 0L);
        run = says(32, "Throws `IllegalStateException` if there is no wall");
        run.refuses(STATE, "push", 0, 0L).refuses(STATE, "push", -1, -1L).refuses(STATE, "push", 8, 0L).refuses(STATE, "push", 0, -1L);
        dueCourses(32, "push", 3L);
        run = says(32, "Throws `IllegalArgumentException` if it is below 0");
        wall(run, 4, 4, 1);
        run.does("push", 2, 7L);
        run.refuses(ARGUMENT, "push", 2, -1L).refuses(ARGUMENT, "push", 2, Long.MIN_VALUE).refuses(BOUNDS, "push", 3, -1L);
        run.refuses(BOUNDS, "push", -1, -1L).is(7, "push", 2, 7L);
    }

    private void frictionTold() {
        Run run = says(33, "- `hundredths`: 10 to 90");
        run.refuses(ARGUMENT, "friction", 9).is(50, "friction", 10).refuses(ARGUMENT, "friction", 91).is(10, "friction", 90);
        says(33, "Returns the friction before.").is(50, "friction", 51).is(51, "friction", 52).is(52, "friction", 52);
        run = says(33, "Throws `IllegalArgumentException` if a number is out of range");
        run.does("friction", 77);
        for (int wrong : new int[] {9, 91, 0, 100, -50, LEAST, MOST}) {
            run.refuses(ARGUMENT, "friction", wrong);
        }
        run.is(77, "friction", 50);
    }

    private void moverTold() {
        Run run = says(34, "Returns the stone.");
        wall(run, 4, 4, 0);
        run.does("stone", 1, 1, 1);
        run.lay(4, 1, 1, 0, true, 0);
        run.does("push", 0, 11L);
        run.is(1, "mover").is(1, "mover").is('w', "state", 1);
        run = says(34, "Throws `IllegalStateException` if there is no wall");
        run.refuses(STATE, "mover");
        run.hold(1, 1, 1);
        run.refuses(STATE, "mover");
        run = says(34, "Throws `NoSuchElementException` if all hold");
        wall(run, 4, 4, 0);
        run.does("push", 0, GREATEST);
        run.refuses(ELEMENT, "mover");
        run.lay(4, 1, 1, 0, true, 0);
        run.does("push", 0, 10L);
        run.refuses(ELEMENT, "mover");
        run.does("push", 1, GREATEST);
        run.refuses(ELEMENT, "mover");
    }

    private void fall() {
        Run run = says(35, "Returns how many fall.");
        wall(run, 4, 4, 0);
        for (int course = 0; course < 8; course++) {
            run.lay(4, 1, 4, course, true, 0);
        }
        run.cope(2, 1, 4);
        run.cope(2, 1, 4);
        run.does("push", 7, 100000L);
        run.is(3, "fall");
        run.does("push", 0, 100000L);
        run.is(7, "fall").refuses(ELEMENT, "fall").is(9, "heap", 9);
        run = says(35, "Throws `IllegalStateException` if there is no wall");
        run.refuses(STATE, "fall");
        run.hold(1, 1, 1);
        run.refuses(STATE, "fall");
        run = says(35, "Throws `NoSuchElementException` if all hold");
        wall(run, 4, 4, 0);
        run.does("push", 0, GREATEST);
        run.refuses(ELEMENT, "fall");
        run.lay(4, 1, 4, 0, true, 0);
        run.does("push", 0, 40L);
        run.refuses(ELEMENT, "fall");
        run.cope(4, 1, 4);
        run.does("push", 0, 80L);
        run.refuses(ELEMENT, "fall");
        run.does("push", 0, 81L);
        run.is(2, "fall");
    }
}
