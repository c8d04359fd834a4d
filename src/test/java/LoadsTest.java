import java.util.NoSuchElementException;

/** Promises 30 to 35: loads, pushes and what falls. */
public final class LoadsTest {
    private static final Class<IllegalArgumentException> ARGUMENT = IllegalArgumentException.class;
    private static final Class<IllegalStateException> STATE = IllegalStateException.class;
    private static final Class<IndexOutOfBoundsException> BOUNDS = IndexOutOfBoundsException.class;
    private static final Class<UnsupportedOperationException> UNSUPPORTED = UnsupportedOperationException.class;
    private static final Class<NoSuchElementException> ELEMENT = NoSuchElementException.class;

    private final Checks checks = new Checks();

    public static void main(String[] args) {
        LoadsTest test = new LoadsTest();
        test.press();
        test.pressWrong();
        test.pressStays();
        test.loadOn();
        test.loadOnIsCutOnce();
        test.loadOfThroughs();
        test.loadOfCopes();
        test.greatLoads();
        test.push();
        test.friction();
        test.mover();
        test.moverByPlaces();
        test.moverHoldsExactly();
        test.fall();
        test.fallTakesThroughs();
        test.fallLeaves();
        test.fallOfTheBack();
        test.fallTwice();
        test.checks.end();
    }

    private static int lay(Copestone yard, int l, int h, int t, int course, boolean isFront, int place) {
        int stone = yard.stone(l, h, t);
        yard.lift(stone);
        yard.lay(course, isFront, place);
        return stone;
    }

    private static int cope(Copestone yard, int l, int h, int t) {
        int stone = yard.stone(l, h, t);
        yard.lift(stone);
        yard.cope();
        return stone;
    }

    private static Copestone wall(int length, int base) {
        Copestone yard = new Copestone();
        yard.runs(4);
        yard.build(length, base, 0);
        return yard;
    }

    private void press() {
        Copestone yard = wall(6, 4);
        int low = lay(yard, 4, 1, 1, 0, true, 0);
        int high = lay(yard, 2, 1, 1, 1, true, 0);
        int back = lay(yard, 4, 1, 1, 0, false, 0);
        checks.due("30: the highest", yard.press(true, 1, 7), 7L);
        checks.due("30: added", yard.press(true, 0, 5), 12L);
        checks.due("30: it has it", yard.loadOn(high), 22L);
        checks.due("30: nothing above", yard.press(true, 3, 3), 3L);
        checks.due("30: 20, 3 and 22", yard.loadOn(low), 45L);
        checks.due("30: in the back", yard.press(false, 0, 1), 1L);
        checks.due("30: what it has", yard.loadOn(back), 21L);
        checks.due("30: up to the greatest long", yard.press(false, 0, Long.MAX_VALUE), Long.MAX_VALUE);
        checks.due("30: not beyond", yard.press(false, 1, 1), Long.MAX_VALUE);
    }

    private void pressWrong() {
        Copestone yard = new Copestone();
        checks.dueThrows("30: no wall", yard, STATE, () -> yard.press(true, 0, 1));
        checks.dueThrows("30: no wall, all wrong", yard, STATE, () -> yard.press(true, -1, 0));
        yard.build(4, 4, 0);
        for (int wrong : new int[] {-1, 4, Integer.MAX_VALUE, Integer.MIN_VALUE}) {
            checks.dueThrows("30: place " + wrong, yard, BOUNDS, () -> yard.press(true, wrong, 1));
            checks.dueThrows("30: place and load " + wrong, yard, BOUNDS, () -> yard.press(true, wrong, 0));
        }
        for (long wrong : new long[] {0, -1, Long.MIN_VALUE}) {
            checks.dueThrows("30: load " + wrong, yard, ARGUMENT, () -> yard.press(true, 0, wrong));
        }
        checks.dueThrows("30: no stone", yard, ELEMENT, () -> yard.press(true, 0, 1));
        lay(yard, 2, 1, 1, 0, true, 1);
        checks.dueThrows("30: load 0 on a stone", yard, ARGUMENT, () -> yard.press(true, 1, 0));
        checks.dueThrows("30: beside it", yard, ELEMENT, () -> yard.press(true, 3, 1));
        checks.dueThrows("30: in the other skin", yard, ELEMENT, () -> yard.press(false, 1, 1));
    }

    private void pressStays() {
        Copestone yard = wall(4, 4);
        int low = lay(yard, 4, 1, 4, 0, true, 0);
        yard.press(true, 0, 100);
        int high = lay(yard, 4, 1, 4, 1, true, 0);
        checks.due("30: it stays below", yard.loadOn(high), 80L);
        checks.due("30: with what came", yard.loadOn(low), 260L);
        int cope = cope(yard, 2, 1, 4);
        checks.due("30: on the cope, told for the back", yard.press(false, 1, 8), 8L);
        checks.due("30: on the cope, told for the front", yard.press(true, 0, 1), 9L);
        checks.due("30: the cope has it", yard.loadOn(cope), 49L);
        checks.due("30: beside the cope", yard.press(true, 2, 4), 4L);
        checks.due("30: on the stone", yard.loadOn(high), 80L + 4 + 49);
    }

    private void loadOn() {
        Copestone yard = wall(6, 4);
        for (int wrong : new int[] {-1, 0, 60, Integer.MAX_VALUE, Integer.MIN_VALUE}) {
            checks.dueThrows("31: loadOn(" + wrong + ")", yard, BOUNDS, () -> yard.loadOn(wrong));
        }
        int left = lay(yard, 3, 1, 1, 0, true, 0);
        int right = lay(yard, 3, 1, 1, 0, true, 3);
        checks.due("31: its weight", yard.loadOn(left), 15L);
        int above = lay(yard, 3, 2, 2, 1, true, 2);
        checks.due("31: the one above", yard.loadOn(above), 60L);
        checks.due("31: one of its three places", yard.loadOn(left), 35L);
        checks.due("31: two of its three places", yard.loadOn(right), 55L);
        int top = lay(yard, 1, 1, 1, 2, true, 2);
        checks.due("31: 65 by 3, cut", yard.loadOn(left), 15L + 21);
        checks.due("31: twice 65 by 3, cut", yard.loadOn(right), 15L + 43);
        checks.due("31: the top", yard.loadOn(top), 5L);
        yard.stone(1, 1, 1);
        checks.dueThrows("31: in the heap", yard, UNSUPPORTED, () -> yard.loadOn(4));
        yard.lift(4);
        checks.dueThrows("31: in the hand", yard, UNSUPPORTED, () -> yard.loadOn(4));
        yard.throwAway();
        checks.dueThrows("31: gone", yard, UNSUPPORTED, () -> yard.loadOn(4));
        yard.build(4, 4, 0);
        checks.dueThrows("31: gone with its wall", yard, UNSUPPORTED, () -> yard.loadOn(left));
    }

    private void loadOnIsCutOnce() {
        Copestone yard = wall(5, 4);
        int low = lay(yard, 4, 1, 1, 0, true, 0);
        lay(yard, 1, 1, 1, 0, true, 4);
        int above = lay(yard, 5, 1, 1, 1, true, 0);
        yard.press(true, 0, 4);
        checks.due("31: 29", yard.loadOn(above), 29L);
        checks.due("31: four times 29 by 5, cut once", yard.loadOn(low), 20L + 23);
    }

    private void loadOfThroughs() {
        Copestone yard = wall(4, 4);
        int through = lay(yard, 2, 1, 4, 0, true, 0);
        int front = lay(yard, 2, 1, 1, 0, true, 2);
        int back = lay(yard, 2, 1, 2, 0, false, 2);
        int above = lay(yard, 3, 1, 4, 1, true, 0);
        checks.due("31: a through above", yard.loadOn(above), 60L);
        checks.due("31: four of its six places", yard.loadOn(through), 40L + 40);
        checks.due("31: one of them in the front", yard.loadOn(front), 10L + 10);
        checks.due("31: one of them in the back", yard.loadOn(back), 20L + 10);
        yard.press(false, 0, 5);
        checks.due("31: four of six of 65, cut once", yard.loadOn(through), 40L + 43);
        Copestone other = wall(4, 4);
        int low = lay(other, 4, 1, 4, 0, true, 0);
        lay(other, 3, 1, 1, 1, true, 0);
        checks.due("31: a stone of one skin gives all to a through", other.loadOn(low), 95L);
    }

    private void loadOfCopes() {
        Copestone yard = wall(4, 4);
        int front = lay(yard, 3, 1, 1, 0, true, 0);
        int right = lay(yard, 1, 1, 1, 0, true, 3);
        int back = lay(yard, 4, 1, 2, 0, false, 0);
        int cope = cope(yard, 4, 1, 4);
        checks.due("31: the cope", yard.loadOn(cope), 80L);
        checks.due("31: three of eight", yard.loadOn(front), 15L + 30);
        checks.due("31: one of eight", yard.loadOn(right), 5L + 10);
        checks.due("31: four of eight", yard.loadOn(back), 40L + 40);
    }

    private void greatLoads() {
        Copestone yard = wall(4, 4);
        int low = lay(yard, 4, 1, 1, 0, true, 0);
        int left = lay(yard, 2, 1, 1, 1, true, 0);
        int right = lay(yard, 2, 1, 1, 1, true, 2);
        int top = lay(yard, 3, 1, 1, 2, true, 0);
        yard.press(true, 0, Long.MAX_VALUE);
        checks.due("31: not beyond the greatest long", yard.loadOn(top), Long.MAX_VALUE);
        checks.due("31: two thirds, exactly", yard.loadOn(left), 6148914691236517204L + 10);
        checks.due("31: a third, exactly", yard.loadOn(right), 3074457345618258602L + 10);
        checks.due("31: all of it, not beyond", yard.loadOn(low), Long.MAX_VALUE);
    }

    private void push() {
        Copestone yard = new Copestone();
        checks.dueThrows("32: no wall", yard, STATE, () -> yard.push(0, 1));
        checks.dueThrows("32: no wall, all wrong", yard, STATE, () -> yard.push(-1, -1));
        yard.build(4, 4, 1);
        for (int wrong : new int[] {-1, 3, 8, Integer.MAX_VALUE, Integer.MIN_VALUE}) {
            checks.dueThrows("32: course " + wrong, yard, BOUNDS, () -> yard.push(wrong, 1));
            checks.dueThrows("32: course and push " + wrong, yard, BOUNDS, () -> yard.push(wrong, -1));
        }
        checks.due("32: none before", yard.push(2, 5), 0L);
        checks.due("32: the push before", yard.push(2, Long.MAX_VALUE), 5L);
        checks.due("32: of another course", yard.push(0, 3), 0L);
        checks.dueThrows("32: below 0", yard, ARGUMENT, () -> yard.push(2, -1));
        checks.dueThrows("32: far below 0", yard, ARGUMENT, () -> yard.push(2, Long.MIN_VALUE));
        checks.due("32: it stayed", yard.push(2, 0), Long.MAX_VALUE);
        checks.due("32: 0 is a push", yard.push(2, 1), 0L);
    }

    private void friction() {
        Copestone yard = new Copestone();
        checks.due("33: 50 at first", yard.friction(10), 50);
        checks.due("33: the least", yard.friction(90), 10);
        for (int wrong : new int[] {9, 91, 0, -50, Integer.MAX_VALUE, Integer.MIN_VALUE}) {
            checks.dueThrows("33: friction(" + wrong + ")", yard, ARGUMENT, () -> yard.friction(wrong));
        }
        checks.due("33: the greatest", yard.friction(33), 90);
        yard.build(4, 4, 0);
        checks.due("33: a new wall keeps it", yard.friction(50), 33);
    }

    private void mover() {
        Copestone yard = new Copestone();
        checks.dueThrows("34: no wall", yard, STATE, yard::mover);
        yard.build(4, 4, 0);
        checks.dueThrows("34: no stone", yard, ELEMENT, yard::mover);
        yard.push(0, Long.MAX_VALUE);
        checks.dueThrows("34: no stone, a push", yard, ELEMENT, yard::mover);
        yard.push(0, 0);
        yard.runs(4);
        int back = lay(yard, 2, 1, 2, 0, false, 0);
        int front = lay(yard, 2, 1, 2, 0, true, 0);
        int right = lay(yard, 2, 1, 2, 0, true, 2);
        int high = lay(yard, 2, 1, 2, 1, false, 0);
        checks.dueThrows("34: no push", yard, ELEMENT, yard::mover);
        yard.push(0, 1000);
        checks.due("34: the front ahead of the back", yard.mover(), front);
        yard.press(true, 0, 100000);
        checks.due("34: the first one ahead of the right one", yard.mover(), back);
        yard.press(false, 0, 100000);
        checks.due("34: the right one", yard.mover(), right);
        yard.push(1, 100000);
        checks.due("34: the higher course", yard.mover(), high);
        yard.push(1, 0);
        checks.due("34: the lower one", yard.mover(), right);
        yard.push(0, 0);
        checks.dueThrows("34: all hold", yard, ELEMENT, yard::mover);
    }

    private void moverByPlaces() {
        Copestone yard = wall(6, 4);
        int one = lay(yard, 1, 1, 2, 0, true, 0);
        int four = lay(yard, 4, 1, 2, 0, true, 1);
        int through = lay(yard, 1, 1, 4, 0, true, 5);
        yard.push(0, 35);
        checks.dueThrows("34: 5, 20 and 10 of 35", yard, ELEMENT, yard::mover);
        yard.push(0, 36);
        checks.dueThrows("34: 1, 4 and 2 sevenths of 36, cut", yard, ELEMENT, yard::mover);
        yard.push(0, 37);
        checks.due("34: 4 sevenths of 37 are more than 20", yard.mover(), four);
        yard.push(0, 42);
        checks.due("34: 6 of 42 is more than 5", yard.mover(), one);
        yard.press(true, 0, 100);
        checks.due("34: 24 is more than 20", yard.mover(), four);
        yard.press(true, 1, 100);
        checks.due("34: a through has two places: 12 is more than 10", yard.mover(), through);
        yard.press(true, 5, 4);
        checks.dueThrows("34: 12 is as much as 12", yard, ELEMENT, yard::mover);
    }

    private void moverHoldsExactly() {
        Copestone yard = wall(4, 4);
        int stone = lay(yard, 1, 1, 1, 0, true, 0);
        yard.press(true, 0, Long.MAX_VALUE);
        yard.friction(90);
        yard.push(0, 8301034833169298226L);
        checks.dueThrows("34: 90 hundredths of the greatest long", yard, ELEMENT, yard::mover);
        yard.push(0, 8301034833169298227L);
        checks.due("34: one more", yard.mover(), stone);
        Copestone small = wall(4, 4);
        int light = lay(small, 1, 3, 1, 0, true, 0);
        small.press(true, 0, 184);
        small.friction(33);
        small.push(0, 65);
        checks.dueThrows("34: 33 and 32 of 199", small, ELEMENT, small::mover);
        small.push(0, 66);
        checks.due("34: more than 33 and 32", small.mover(), light);
    }

    private void fall() {
        Copestone yard = new Copestone();
        checks.dueThrows("35: no wall", yard, STATE, yard::fall);
        yard.runs(4);
        yard.build(6, 4, 0);
        checks.dueThrows("35: no stone", yard, ELEMENT, yard::fall);
        int left = lay(yard, 2, 1, 2, 0, true, 0);
        int middle = lay(yard, 2, 1, 2, 0, true, 2);
        int right = lay(yard, 2, 1, 2, 0, true, 4);
        int above = lay(yard, 3, 1, 2, 1, true, 0);
        int beside = lay(yard, 2, 1, 2, 1, true, 4);
        int top = lay(yard, 1, 1, 2, 2, true, 0);
        checks.dueThrows("35: all hold", yard, ELEMENT, yard::fall);
        yard.press(true, 0, 50);
        yard.press(true, 3, 1);
        yard.push(0, 100);
        checks.due("35: the mover", yard.mover(), middle);
        checks.due("35: with one that lies on it by one place, and what lies on that", yard.fall(), 3);
        checks.due("35: it is in the heap", yard.state(middle), 'h');
        checks.due("35: so is that above", yard.state(above), 'h');
        checks.due("35: and the top", yard.state(top), 'h');
        checks.due("35: not the left one", yard.state(left), 'w');
        checks.due("35: not the right one", yard.state(right), 'w');
        checks.due("35: not that beside", yard.state(beside), 'w');
        checks.dueThrows("35: its place is free", yard, ELEMENT, () -> yard.at(0, true, 2));
        checks.due("35: the heap", yard.heap(0), above);
        yard.push(0, 0);
        yard.lift(top);
        yard.lay(0, true, 2);
        checks.due("35: the load on it is gone", yard.loadOn(top), 10L);
    }

    private void fallTakesThroughs() {
        Copestone yard = wall(4, 4);
        int through = lay(yard, 4, 1, 4, 0, true, 0);
        int front = lay(yard, 4, 1, 2, 1, true, 0);
        int back = lay(yard, 4, 1, 2, 1, false, 0);
        int over = lay(yard, 2, 1, 4, 2, true, 0);
        yard.push(1, 400);
        yard.press(true, 3, 1000);
        checks.due("35: of the back", yard.mover(), back);
        checks.due("35: a through lies on it by its back", yard.fall(), 2);
        checks.due("35: it fell", yard.state(over), 'h');
        checks.due("35: the front stays", yard.state(front), 'w');
        yard.push(0, 100000);
        yard.push(1, 0);
        checks.due("35: with all on it", yard.fall(), 2);
        checks.due("35: the through", yard.state(through), 'h');
        checks.dueThrows("35: gone from the back", yard, ELEMENT, () -> yard.at(0, false, 3));
        Copestone coped = wall(4, 4);
        lay(coped, 4, 1, 4, 0, true, 0);
        lay(coped, 2, 1, 4, 1, true, 0);
        lay(coped, 2, 1, 4, 1, true, 2);
        int cope = cope(coped, 2, 1, 4);
        coped.press(true, 0, 500);
        coped.push(1, 100);
        checks.due("35: the right one, and the cope on the left one", coped.fall(), 2);
        checks.due("35: the cope is in the heap", coped.state(cope), 'h');
        coped.push(1, 0);
        coped.lift(cope);
        coped.lay(1, true, 2);
        checks.due("35: its load is gone", coped.loadOn(cope), 40L);
    }

    private void fallLeaves() {
        Copestone yard = wall(4, 4);
        lay(yard, 2, 2, 1, 0, true, 0);
        lay(yard, 2, 2, 1, 0, true, 2);
        lay(yard, 4, 2, 1, 0, false, 0);
        yard.stone(3, 1, 2);
        yard.lift(3);
        checks.due("35: room", yard.pack(0), 10);
        yard.push(0, 5000);
        checks.due("35: the first", yard.fall(), 1);
        checks.due("35: the push stays: the back", yard.fall(), 1);
        checks.due("35: packed", yard.state(3), 'p');
        checks.due("35: no room", yard.room(0), 0);
        checks.due("35: the push", yard.push(0, 0), 5000L);
        yard.lift(2);
        yard.lay(0, false, 0);
        checks.due("35: what was packed counts still", yard.room(0), 2);
    }

    private void fallOfTheBack() {
        Copestone yard = wall(6, 4);
        int low = lay(yard, 3, 1, 1, 0, false, 0);
        int right = lay(yard, 3, 1, 1, 0, false, 3);
        int middle = lay(yard, 2, 1, 1, 1, false, 2);
        int top = lay(yard, 1, 1, 1, 2, false, 3);
        yard.push(0, 100000);
        checks.due("35: the back, with two above", yard.fall(), 3);
        checks.due("35: the first", yard.state(low), 'h');
        checks.due("35: the middle", yard.state(middle), 'h');
        checks.due("35: the top", yard.state(top), 'h');
        checks.due("35: the right one stays", yard.state(right), 'w');
    }

    private void fallTwice() {
        Copestone yard = wall(6, 4);
        int left = lay(yard, 3, 1, 1, 0, true, 0);
        int right = lay(yard, 3, 1, 1, 0, true, 3);
        yard.push(0, 100);
        checks.due("35: the left one", yard.fall(), 1);
        yard.lift(left);
        yard.lay(0, true, 0);
        yard.press(true, 0, 1000);
        checks.due("35: now the right one alone", yard.fall(), 1);
        checks.due("35: the left one lies", yard.state(left), 'w');
        checks.due("35: the right one does not", yard.state(right), 'h');
    }
}
