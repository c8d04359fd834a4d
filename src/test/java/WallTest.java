import java.util.NoSuchElementException;

/** Promises 18 to 27: the wall, its courses, joints, hearting and copes. */
public final class WallTest {
    private static final Class<IllegalArgumentException> ARGUMENT = IllegalArgumentException.class;
    private static final Class<IllegalStateException> STATE = IllegalStateException.class;
    private static final Class<IndexOutOfBoundsException> BOUNDS = IndexOutOfBoundsException.class;
    private static final Class<UnsupportedOperationException> UNSUPPORTED = UnsupportedOperationException.class;
    private static final Class<NoSuchElementException> ELEMENT = NoSuchElementException.class;

    private final Checks checks = new Checks();

    public static void main(String[] args) {
        WallTest test = new WallTest();
        test.build();
        test.newWallTakesThePlace();
        test.newWallHasRoom();
        test.runs();
        test.runsOfTheWall();
        test.layWrong();
        test.layWithinTheWall();
        test.layOnStone();
        test.layPins();
        test.layTails();
        test.layThroughs();
        test.layJoints();
        test.layJointsOfOneSkin();
        test.layBesideWhatIsAbove();
        test.heightAsLongAsStonesLie();
        test.pack();
        test.packWrong();
        test.cope();
        test.copeWrong();
        test.at();
        test.width();
        test.room();
        test.isComplete();
        test.throughs();
        test.checks.end();
    }

    private static int hold(Copestone yard, int l, int h, int t) {
        int stone = yard.stone(l, h, t);
        yard.lift(stone);
        return stone;
    }

    private static int lay(Copestone yard, int l, int h, int t, int course, boolean isFront, int place) {
        hold(yard, l, h, t);
        return yard.lay(course, isFront, place);
    }

    /** A wall without batter whose first course is one through. */
    private static Copestone oneCourse(int length, int height) {
        Copestone yard = new Copestone();
        yard.build(length, 4, 0);
        lay(yard, length, height, 4, 0, true, 0);
        return yard;
    }

    private void build() {
        Copestone yard = new Copestone();
        int[][] wrong = {{3, 4, 0}, {25, 4, 0}, {4, 3, 0}, {4, 13, 0}, {4, 4, -1}, {4, 4, 3}, {Integer.MAX_VALUE, 4, 0},
            {4, Integer.MIN_VALUE, 0}, {4, 4, Integer.MAX_VALUE}};
        for (int[] w : wrong) {
            checks.dueThrows("18: " + w[0] + " " + w[1] + " " + w[2], yard, ARGUMENT, () -> yard.build(w[0], w[1], w[2]));
        }
        checks.dueThrows("18: none was built", yard, STATE, () -> yard.width(0));
        int[][] due = {{4, 4, 0, 8}, {24, 12, 2, 6}, {4, 4, 1, 3}, {4, 4, 2, 2}, {4, 5, 2, 2}, {4, 9, 1, 8}, {4, 8, 1, 7},
            {4, 12, 1, 8}, {4, 5, 1, 4}};
        for (int[] d : due) {
            checks.due("18: courses of " + d[1] + " " + d[2], yard.build(d[0], d[1], d[2]), d[3]);
        }
    }

    private void newWallTakesThePlace() {
        Copestone yard = oneCourse(4, 2);
        lay(yard, 4, 2, 2, 1, true, 0);
        lay(yard, 4, 2, 1, 1, false, 0);
        hold(yard, 1, 1, 1);
        yard.pack(1);
        hold(yard, 1, 1, 4);
        yard.cope();
        int held = hold(yard, 4, 1, 4);
        yard.push(0, 77);
        checks.due("18: a new one", yard.build(5, 4, 0), 8);
        for (int stone = 0; stone < 5; stone++) {
            checks.due("18: stone " + stone, yard.state(stone), 'g');
        }
        checks.due("18: the one in the hand", yard.state(held), 'n');
        checks.due("18: no push", yard.push(0, 0), 0L);
        checks.dueThrows("18: nothing lies", yard, ELEMENT, () -> yard.at(0, true, 0));
        checks.due("18: a new length", yard.lay(0, true, 1), 0);
        checks.due("18: of its own height, without a load", yard.loadOn(held), 80L);
        checks.due("18: nothing is packed", yard.room(0), 0);
    }

    private void newWallHasRoom() {
        Copestone yard = new Copestone();
        for (int wall = 0; wall < 2; wall++) {
            yard.build(4, 4, 0);
            lay(yard, 4, 1, 1, 0, true, 0);
            lay(yard, 4, 1, 1, 0, false, 0);
            hold(yard, 2, 2, 1);
            checks.due("18: nothing was packed before", yard.pack(0), 4);
            hold(yard, 3, 1, 4);
            checks.due("18: no cope was put before", yard.cope(), 3);
        }
        yard.push(0, 100000);
        yard.fall();
        yard.fall();
        lay(yard, 4, 2, 4, 0, true, 0);
        hold(yard, 3, 1, 4);
        checks.due("22: no cope is left behind a fall", yard.cope(), 3);
    }

    private void runs() {
        Copestone yard = new Copestone();
        checks.due("19: 1 at first", yard.runs(4), 1);
        checks.due("19: the number before", yard.runs(1), 4);
        for (int wrong : new int[] {0, 5, -1, Integer.MAX_VALUE, Integer.MIN_VALUE}) {
            checks.dueThrows("19: runs(" + wrong + ")", yard, ARGUMENT, () -> yard.runs(wrong));
        }
        checks.due("19: kept", yard.runs(3), 1);
        yard.build(4, 4, 0);
        checks.due("19: kept by a new wall", yard.runs(3), 3);
    }

    private void runsOfTheWall() {
        Copestone yard = new Copestone();
        yard.runs(3);
        yard.build(6, 4, 0);
        for (int course = 0; course < 3; course++) {
            lay(yard, 3, 1, 2, course, false, 0);
            lay(yard, 3, 1, 2, course, false, 3);
        }
        checks.dueThrows("19: a joint of the back runs up 3", yard, UNSUPPORTED, () -> yard.runs(2));
        checks.dueThrows("19: out of range comes first", yard, ARGUMENT, () -> yard.runs(0));
        checks.due("19: as far as it runs", yard.runs(3), 3);
        yard.push(2, 100000);
        yard.fall();
        checks.dueThrows("19: one stone beside it is enough", yard, UNSUPPORTED, () -> yard.runs(2));
        yard.fall();
        checks.due("19: it runs up 2 now", yard.runs(2), 3);
        lay(yard, 2, 1, 2, 0, true, 0);
        lay(yard, 2, 1, 2, 1, true, 0);
        checks.dueThrows("19: in the front too", yard, UNSUPPORTED, () -> yard.runs(1));
        yard.build(4, 4, 0);
        checks.due("19: a new wall has no joints", yard.runs(1), 2);
    }

    private void layWrong() {
        Copestone yard = new Copestone();
        checks.dueThrows("20: no wall", yard, STATE, () -> yard.lay(0, true, 0));
        hold(yard, 2, 2, 2);
        checks.dueThrows("20: no wall, a stone in the hand", yard, STATE, () -> yard.lay(9, true, 99));
        yard.throwAway();
        yard.build(4, 4, 1);
        checks.dueThrows("20: an empty hand", yard, STATE, () -> yard.lay(0, true, 0));
        checks.dueThrows("20: an empty hand, no course", yard, STATE, () -> yard.lay(-1, true, 9));
        hold(yard, 2, 2, 2);
        for (int wrong : new int[] {-1, 3, 7, 8, Integer.MAX_VALUE, Integer.MIN_VALUE}) {
            checks.dueThrows("20: course " + wrong, yard, BOUNDS, () -> yard.lay(wrong, true, 0));
            checks.dueThrows("20: place " + wrong, yard, wrong == 3 ? UNSUPPORTED : BOUNDS, () -> yard.lay(0, true, wrong));
        }
        checks.dueThrows("20: place 4", yard, BOUNDS, () -> yard.lay(2, false, 4));
        checks.dueThrows("20: on air", yard, UNSUPPORTED, () -> yard.lay(2, false, 0));
    }

    private void layWithinTheWall() {
        Copestone yard = new Copestone();
        yard.build(6, 6, 0);
        hold(yard, 3, 2, 2);
        checks.dueThrows("20: beyond the end", yard, UNSUPPORTED, () -> yard.lay(0, true, 4));
        checks.due("20: up to the end", yard.lay(0, true, 3), 0);
        checks.due("20: in the wall", yard.state(0), 'w');
        hold(yard, 3, 2, 2);
        checks.dueThrows("20: something lies at the last place", yard, UNSUPPORTED, () -> yard.lay(0, true, 1));
        checks.dueThrows("20: something lies at all places", yard, UNSUPPORTED, () -> yard.lay(0, true, 3));
        checks.due("20: in the other skin", yard.lay(0, false, 3), 0);
        hold(yard, 4, 2, 2);
        checks.dueThrows("20: too long for the gap", yard, UNSUPPORTED, () -> yard.lay(0, true, 0));
        yard.dress(0, 'l', 1);
        checks.due("20: as long as the gap", yard.lay(0, true, 0), 0);
    }

    private void layOnStone() {
        Copestone yard = new Copestone();
        yard.build(8, 6, 0);
        lay(yard, 4, 2, 2, 0, true, 0);
        lay(yard, 4, 2, 2, 0, false, 4);
        hold(yard, 3, 2, 2);
        checks.dueThrows("20: one place on air", yard, UNSUPPORTED, () -> yard.lay(1, true, 2));
        checks.dueThrows("20: on air in this skin", yard, UNSUPPORTED, () -> yard.lay(1, false, 0));
        checks.dueThrows("20: two courses up", yard, UNSUPPORTED, () -> yard.lay(2, true, 0));
        checks.due("20: on stone", yard.lay(1, true, 0), 0);
        hold(yard, 3, 2, 6);
        checks.dueThrows("20: a through, on air in the front", yard, UNSUPPORTED, () -> yard.lay(1, false, 4));
        yard.dress(0, 't', 4);
        checks.due("20: dressed, it is none", yard.lay(1, false, 5), 0);
    }

    private void layPins() {
        Copestone yard = new Copestone();
        yard.runs(4);
        yard.build(9, 6, 0);
        checks.due("20: the first one", lay(yard, 1, 3, 2, 0, true, 0), 0);
        checks.due("20: a pin", lay(yard, 1, 2, 2, 0, true, 1), 1);
        checks.due("20: another one in the back", lay(yard, 1, 2, 2, 0, false, 8), 2);
        checks.due("20: a through takes one pin", lay(yard, 1, 2, 6, 0, false, 4), 3);
        checks.due("20: of the height", lay(yard, 1, 3, 2, 0, false, 0), 3);
        hold(yard, 1, 4, 2);
        checks.dueThrows("20: 1 higher", yard, UNSUPPORTED, () -> yard.lay(0, true, 2));
        yard.dress(0, 'h', 3);
        checks.dueThrows("20: 2 lower", yard, UNSUPPORTED, () -> yard.lay(0, true, 2));
        yard.throwAway();
        hold(yard, 1, 4, 2);
        checks.due("20: the next course has its own height", yard.lay(1, true, 0), 3);
        yard.push(0, 100000);
        checks.due("20: the first one falls, with one on it", yard.fall(), 2);
        checks.due("20: the height stays", lay(yard, 1, 2, 2, 0, true, 2), 4);
        checks.due("20: pins of the whole wall", lay(yard, 1, 4, 2, 1, true, 1), 4);
    }

    private void layTails() {
        Copestone yard = new Copestone();
        yard.runs(4);
        yard.build(8, 5, 1);
        lay(yard, 3, 2, 3, 0, true, 0);
        hold(yard, 4, 2, 3);
        checks.dueThrows("20: 6 of 5 wide", yard, UNSUPPORTED, () -> yard.lay(0, false, 2));
        yard.dress(0, 't', 1);
        checks.due("20: 5 of 5 wide", yard.lay(0, false, 2), 0);
        hold(yard, 2, 2, 4);
        checks.due("20: nothing lies in the other skin", yard.lay(0, false, 6), 0);
        hold(yard, 1, 2, 2);
        checks.dueThrows("20: the front is looked at too", yard, UNSUPPORTED, () -> yard.lay(0, true, 6));
        yard.dress(0, 't', 1);
        checks.due("20: 1 and 4", yard.lay(0, true, 6), 0);
        lay(yard, 2, 2, 2, 0, false, 0);
        lay(yard, 3, 2, 3, 1, true, 0);
        hold(yard, 1, 2, 2);
        checks.dueThrows("20: the width of the course above is 4", yard, UNSUPPORTED, () -> yard.lay(1, false, 0));
    }

    private void layThroughs() {
        Copestone yard = new Copestone();
        yard.runs(4);
        yard.build(8, 4, 1);
        checks.due("20: as deep as the width, told at the back", lay(yard, 2, 2, 4, 0, false, 0), 0);
        checks.due("20: it is in the front", yard.at(0, true, 1), 0);
        checks.due("20: it is in the back", yard.at(0, false, 1), 0);
        checks.due("20: deeper than the width", lay(yard, 2, 2, 6, 0, true, 2), 0);
        lay(yard, 2, 2, 1, 0, true, 4);
        hold(yard, 2, 2, 4);
        checks.dueThrows("20: a stone lies in the front", yard, UNSUPPORTED, () -> yard.lay(0, false, 4));
        checks.dueThrows("20: one place of it", yard, UNSUPPORTED, () -> yard.lay(0, false, 5));
        yard.lay(0, true, 6);
        hold(yard, 1, 2, 2);
        checks.dueThrows("20: a through lies there", yard, UNSUPPORTED, () -> yard.lay(0, false, 0));
        yard.lay(0, false, 4);
        hold(yard, 2, 2, 3);
        checks.due("20: the course above is 3 wide", yard.lay(1, true, 0), 0);
        checks.due("20: a through there", yard.at(1, false, 1), yard.at(1, true, 1));
        hold(yard, 2, 2, 3);
        checks.dueThrows("20: no stone below in the back", yard, UNSUPPORTED, () -> yard.lay(1, true, 4));
    }

    private void layJoints() {
        Copestone yard = new Copestone();
        yard.build(8, 6, 0);
        lay(yard, 3, 1, 2, 0, true, 0);
        lay(yard, 5, 1, 2, 0, true, 3);
        hold(yard, 3, 1, 2);
        checks.dueThrows("20: its end is above a joint", yard, UNSUPPORTED, () -> yard.lay(1, true, 0));
        checks.dueThrows("20: its begin is above a joint", yard, UNSUPPORTED, () -> yard.lay(1, true, 3));
        checks.due("20: neither", yard.lay(1, true, 4), 0);
        hold(yard, 4, 1, 2);
        checks.due("20: up to the one that lies, from the end of the wall", yard.lay(1, true, 0), 0);
        hold(yard, 1, 1, 2);
        checks.dueThrows("20: 4 is a joint of the course 1", yard, UNSUPPORTED, () -> yard.lay(2, true, 4));
        checks.dueThrows("20: so is 7", yard, UNSUPPORTED, () -> yard.lay(2, true, 6));
        checks.due("20: the end of the wall is none", yard.runs(2), 1);
        checks.due("20: 7 twice is fine now", yard.lay(2, true, 6), 0);
        hold(yard, 1, 1, 2);
        checks.dueThrows("20: 7 three times", yard, UNSUPPORTED, () -> yard.lay(3, true, 6));
        checks.due("20: runs up farther", yard.runs(3), 2);
        checks.due("20: 7 three times is fine now", yard.lay(3, true, 6), 0);
        hold(yard, 1, 1, 2);
        checks.dueThrows("20: 7 four times", yard, UNSUPPORTED, () -> yard.lay(4, true, 6));
        yard.runs(4);
        checks.due("20: 7 four times is fine now", yard.lay(4, true, 6), 0);
        hold(yard, 1, 1, 2);
        checks.dueThrows("20: 7 five times", yard, UNSUPPORTED, () -> yard.lay(5, true, 6));
    }

    private void layJointsOfOneSkin() {
        Copestone yard = new Copestone();
        yard.build(6, 4, 0);
        lay(yard, 3, 1, 1, 0, true, 0);
        lay(yard, 3, 1, 1, 0, true, 3);
        lay(yard, 6, 1, 1, 0, false, 0);
        hold(yard, 3, 1, 1);
        checks.due("20: a joint of the front is none of the back", yard.lay(1, false, 0), 0);
        hold(yard, 3, 1, 4);
        checks.dueThrows("20: a through has joints in both", yard, UNSUPPORTED, () -> yard.lay(1, false, 3));
        yard.dress(0, 't', 3);
        checks.due("20: a stone of the back has not", yard.lay(1, false, 3), 0);
    }

    private void layBesideWhatIsAbove() {
        Copestone yard = new Copestone();
        yard.build(8, 6, 0);
        lay(yard, 4, 1, 2, 0, true, 0);
        hold(yard, 4, 1, 2);
        checks.dueThrows("20: a joint at the free end of the course below", yard, UNSUPPORTED, () -> yard.lay(1, true, 0));
        yard.dress(0, 'l', 1);
        checks.due("20: a joint at 3", yard.lay(1, true, 0), 0);
        hold(yard, 4, 1, 2);
        checks.due("20: the joint at 4 was there before", yard.lay(0, true, 4), 0);
    }

    private void heightAsLongAsStonesLie() {
        Copestone yard = new Copestone();
        yard.build(4, 4, 0);
        lay(yard, 2, 3, 1, 0, true, 0);
        lay(yard, 2, 3, 1, 0, true, 2);
        lay(yard, 4, 3, 1, 0, false, 0);
        hold(yard, 4, 1, 1);
        yard.pack(0);
        yard.push(0, 100000);
        yard.fall();
        yard.fall();
        hold(yard, 2, 4, 1);
        checks.dueThrows("20: a stone lies still, the height too", yard, UNSUPPORTED, () -> yard.lay(0, true, 0));
        yard.fall();
        checks.due("20: none lies, what was packed aside", yard.lay(0, true, 0), 0);
        checks.due("20: of the new height", lay(yard, 2, 3, 1, 0, true, 2), 1);
    }

    private void pack() {
        Copestone yard = new Copestone();
        yard.build(4, 4, 0);
        lay(yard, 4, 2, 1, 0, true, 0);
        lay(yard, 4, 2, 1, 0, false, 0);
        checks.due("21: the room", yard.room(0), 16);
        hold(yard, 3, 1, 2);
        checks.due("21: left", yard.pack(0), 10);
        checks.due("21: packed", yard.state(2), 'p');
        hold(yard, 5, 2, 1);
        checks.due("21: all of it", yard.pack(0), 0);
        hold(yard, 1, 1, 1);
        checks.dueThrows("21: no room", yard, UNSUPPORTED, () -> yard.pack(0));
        checks.dueThrows("21: it is not laid", yard, UNSUPPORTED, () -> yard.loadOn(2));
        yard.throwAway();
        Copestone coped = new Copestone();
        coped.build(4, 4, 0);
        lay(coped, 4, 2, 1, 0, true, 0);
        lay(coped, 4, 2, 1, 0, false, 0);
        hold(coped, 4, 1, 4);
        coped.cope();
        hold(coped, 1, 1, 1);
        checks.due("21: below a cope too", coped.pack(0), 15);
    }

    private void packWrong() {
        Copestone yard = new Copestone();
        checks.dueThrows("21: no wall", yard, STATE, () -> yard.pack(0));
        hold(yard, 4, 2, 1);
        checks.dueThrows("21: no wall, a stone in the hand", yard, STATE, () -> yard.pack(-1));
        yard.build(4, 4, 1);
        for (int wrong : new int[] {-1, 3, 8, Integer.MAX_VALUE, Integer.MIN_VALUE}) {
            checks.dueThrows("21: course " + wrong, yard, BOUNDS, () -> yard.pack(wrong));
        }
        checks.dueThrows("21: no stones, no room", yard, UNSUPPORTED, () -> yard.pack(0));
        yard.lay(0, true, 0);
        checks.dueThrows("21: an empty hand", yard, STATE, () -> yard.pack(0));
        checks.dueThrows("21: an empty hand, no course", yard, STATE, () -> yard.pack(9));
        lay(yard, 4, 2, 2, 0, false, 0);
        hold(yard, 9, 1, 1);
        checks.dueThrows("21: 9 in 8", yard, UNSUPPORTED, () -> yard.pack(0));
        yard.dress(0, 'l', 1);
        checks.due("21: 8 in 8", yard.pack(0), 0);
    }

    private void cope() {
        Copestone yard = oneCourse(6, 2);
        hold(yard, 2, 3, 4);
        checks.due("22: the first", yard.cope(), 2);
        checks.due("22: a cope", yard.state(1), 'c');
        hold(yard, 3, 1, 6);
        checks.due("22: the second, deeper than the course", yard.cope(), 5);
        hold(yard, 2, 1, 4);
        checks.dueThrows("22: beyond the end", yard, UNSUPPORTED, yard::cope);
        checks.dueThrows("22: nothing is laid any more", yard, UNSUPPORTED, () -> yard.lay(1, true, 0));
        yard.dress(0, 'l', 1);
        checks.due("22: up to the end", yard.cope(), 6);
        hold(yard, 1, 2, 1);
        checks.dueThrows("22: nothing is laid, the course being whole", yard, UNSUPPORTED, () -> yard.lay(1, true, 0));
        yard.push(0, 100000);
        checks.due("22: all fall", yard.fall(), 4);
        checks.due("22: without copes it is laid", yard.lay(0, true, 0), 0);
    }

    private void copeWrong() {
        Copestone yard = new Copestone();
        checks.dueThrows("22: no wall", yard, STATE, yard::cope);
        hold(yard, 2, 1, 4);
        checks.dueThrows("22: no wall, a stone in the hand", yard, STATE, yard::cope);
        yard.build(4, 4, 1);
        checks.dueThrows("22: no stone", yard, UNSUPPORTED, yard::cope);
        yard.lay(0, true, 0);
        checks.dueThrows("22: an empty hand", yard, STATE, yard::cope);
        lay(yard, 2, 1, 2, 0, true, 2);
        hold(yard, 1, 1, 4);
        checks.dueThrows("22: the back is not full", yard, UNSUPPORTED, yard::cope);
        yard.throwAway();
        lay(yard, 2, 1, 2, 0, false, 2);
        hold(yard, 1, 1, 3);
        checks.dueThrows("22: less deep than the course", yard, UNSUPPORTED, yard::cope);
        yard.lay(1, true, 0);
        hold(yard, 1, 1, 6);
        checks.dueThrows("22: a higher course has stones, and is not full", yard, UNSUPPORTED, yard::cope);
        yard.throwAway();
        lay(yard, 3, 1, 3, 1, true, 1);
        hold(yard, 4, 1, 2);
        checks.dueThrows("22: 2 deep on 3", yard, UNSUPPORTED, yard::cope);
        yard.throwAway();
        hold(yard, 4, 1, 3);
        checks.due("22: 3 deep on 3", yard.cope(), 4);
    }

    private void at() {
        Copestone yard = new Copestone();
        checks.dueThrows("23: no wall", yard, STATE, () -> yard.at(0, true, 0));
        checks.dueThrows("23: no wall, no course", yard, STATE, () -> yard.at(-1, true, -1));
        yard.build(5, 4, 1);
        lay(yard, 2, 1, 1, 0, true, 1);
        lay(yard, 2, 1, 1, 0, false, 3);
        checks.due("23: first place", yard.at(0, true, 1), 0);
        checks.due("23: last place", yard.at(0, true, 2), 0);
        checks.due("23: the back", yard.at(0, false, 4), 1);
        for (int[] w : new int[][] {{-1, 0}, {3, 0}, {8, 0}, {0, -1}, {0, 5}, {Integer.MAX_VALUE, 0}, {0, Integer.MIN_VALUE}}) {
            checks.dueThrows("23: " + w[0] + " " + w[1], yard, BOUNDS, () -> yard.at(w[0], true, w[1]));
        }
        checks.dueThrows("23: ahead of it", yard, ELEMENT, () -> yard.at(0, true, 0));
        checks.dueThrows("23: behind it", yard, ELEMENT, () -> yard.at(0, true, 3));
        checks.dueThrows("23: in the other skin", yard, ELEMENT, () -> yard.at(0, false, 1));
        checks.dueThrows("23: above", yard, ELEMENT, () -> yard.at(1, true, 1));
    }

    private void width() {
        Copestone yard = new Copestone();
        checks.dueThrows("24: no wall", yard, STATE, () -> yard.width(0));
        checks.dueThrows("24: no wall, no course", yard, STATE, () -> yard.width(-1));
        yard.build(4, 12, 2);
        for (int course = 0; course < 6; course++) {
            checks.due("24: width(" + course + ")", yard.width(course), 12 - 2 * course);
        }
        for (int wrong : new int[] {-1, 6, 7, 8, Integer.MAX_VALUE, Integer.MIN_VALUE}) {
            checks.dueThrows("24: width(" + wrong + ")", yard, BOUNDS, () -> yard.width(wrong));
        }
        yard.build(4, 4, 0);
        checks.due("24: the last of 8", yard.width(7), 4);
        checks.dueThrows("24: width(8)", yard, BOUNDS, () -> yard.width(8));
    }

    private void room() {
        Copestone yard = new Copestone();
        checks.dueThrows("25: no wall", yard, STATE, () -> yard.room(0));
        yard.build(6, 5, 1);
        checks.dueThrows("25: no course", yard, BOUNDS, () -> yard.room(4));
        checks.dueThrows("25: below", yard, BOUNDS, () -> yard.room(-1));
        checks.due("25: no stones", yard.room(0), 0);
        lay(yard, 3, 3, 1, 0, true, 0);
        checks.due("25: one skin", yard.room(0), 0);
        lay(yard, 2, 2, 2, 0, false, 2);
        checks.due("25: one place of both, the height of the course", yard.room(0), 6);
        lay(yard, 1, 3, 5, 0, false, 4);
        checks.due("25: a through", yard.room(0), 6);
    }

    private void isComplete() {
        Copestone yard = new Copestone();
        checks.dueThrows("26: no wall", yard, STATE, () -> yard.isComplete(0));
        yard.build(4, 4, 1);
        checks.dueThrows("26: no course", yard, BOUNDS, () -> yard.isComplete(3));
        checks.dueThrows("26: below", yard, BOUNDS, () -> yard.isComplete(-1));
        checks.due("26: no stones", yard.isComplete(0), false);
        lay(yard, 4, 1, 1, 0, true, 0);
        checks.due("26: the front", yard.isComplete(0), false);
        lay(yard, 3, 1, 1, 0, false, 0);
        checks.due("26: all but one", yard.isComplete(0), false);
        lay(yard, 1, 1, 1, 0, false, 3);
        checks.due("26: all", yard.isComplete(0), true);
        checks.due("26: the next course", yard.isComplete(1), false);
        lay(yard, 4, 1, 1, 1, false, 0);
        checks.due("26: the back alone", yard.isComplete(1), false);
    }

    private void throughs() {
        Copestone yard = new Copestone();
        checks.dueThrows("27: no wall", yard, STATE, () -> yard.throughs(0));
        yard.build(8, 5, 1);
        checks.dueThrows("27: no course", yard, BOUNDS, () -> yard.throughs(4));
        checks.dueThrows("27: below", yard, BOUNDS, () -> yard.throughs(-1));
        checks.due("27: none", yard.throughs(0), 0);
        lay(yard, 3, 1, 5, 0, true, 0);
        lay(yard, 2, 1, 6, 0, false, 4);
        lay(yard, 1, 1, 4, 0, true, 3);
        checks.due("27: two", yard.throughs(0), 2);
        lay(yard, 2, 1, 4, 1, true, 0);
        checks.due("27: less wide above", yard.throughs(1), 1);
    }
}
