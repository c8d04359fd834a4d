import java.util.Arrays;
import java.util.NoSuchElementException;

/** A yard for walls without mortar and stone cut by hand; the numbered promises of its document say what each call does. */
public final class Copestone {
    private static final int NONE = -1;
    private static final long GREATEST = 9223372036854775807L;

    private static final int MOST_STONES = 60;
    private static final int LONGEST_STONE = 9;
    private static final int HIGHEST_STONE = 4;
    private static final int DEEPEST_STONE = 6;
    private static final int WEIGHT_OF_VOLUME = 5;
    private static final char IN_HEAP = 'h';
    private static final char IN_HAND = 'n';
    private static final char IN_WALL = 'w';
    private static final char PACKED = 'p';
    private static final char AS_COPE = 'c';
    private static final char GONE = 'g';

    private static final int FULL_EDGE = 12;
    private static final int MASONS = 4;
    private static final int PAY = 3;
    private static final int DAYS_OF_SAP_BEHIND = 9;
    private static final int LONGEST_PASS = 99;

    private static final int SHORTEST_WALL = 4;
    private static final int LONGEST_WALL = 24;
    private static final int MOST_COURSES = 8;
    private static final int LEAST_WIDTH = 2;

    private final Stone[] stones = new Stone[MOST_STONES];
    private int stoneCount;
    private final Heap pile = new Heap();
    private Stone hand;
    private int edge = FULL_EDGE;
    private final int[] paid = new int[MASONS];
    private final Pit pit = new Pit();
    private int day;
    private final Wall wall = new Wall();
    private final Filling filling = new Filling();
    private final HalfArch half = new HalfArch();
    private final Gaps gaps = new Gaps();
    private final OldWalls oldWalls = new OldWalls();

    /** Makes a yard without stones, wall, quarry, arch and gaps. */
    public Copestone() {
    }

    // ---- stones and the heap

    public int stone(int length, int height, int tail) throws IllegalArgumentException, IllegalStateException {
        boolean isSound = isWithin(length, 1, LONGEST_STONE) && isWithin(height, 1, HIGHEST_STONE)
                && isWithin(tail, 1, DEEPEST_STONE);
        if (!isSound) {
            throw new IllegalArgumentException("a size is out of range");
        }
        needRoomForStone();
        return addToHeap(length, height, tail, NONE);
    }

    public char state(int stone) throws IndexOutOfBoundsException {
        return knownStone(stone).state;
    }

    public int size(int stone, char what) throws IndexOutOfBoundsException, IllegalArgumentException {
        int measure = knownStone(stone).measure(what);
        if (measure == 0) {
            throw new IllegalArgumentException("there is no such size");
        }
        return measure;
    }

    public int heap(int index) throws NoSuchElementException {
        Stone found = pile.get(index);
        if (found == null) {
            throw new NoSuchElementException("the heap has no such stone");
        }
        return found.number;
    }

    public int lift(int stone) throws IndexOutOfBoundsException, UnsupportedOperationException, IllegalStateException {
        Stone found = knownStone(stone);
        if (found.state != IN_HEAP) {
            throw new UnsupportedOperationException("the stone is not in the heap");
        }
        if (hand != null) {
            throw new IllegalStateException("there is a stone in the hand");
        }
        pile.remove(found);
        found.state = IN_HAND;
        hand = found;
        return pile.count;
    }

    public int throwAway() throws IllegalStateException {
        Stone held = neededHand();
        putOutOfHand(held, GONE);
        return held.number;
    }

    // ---- the banker

    public int dress(int mason, char what, int by) throws IndexOutOfBoundsException, IllegalArgumentException,
            IllegalStateException, UnsupportedOperationException {
        if (mason < 0 || mason >= paid.length) {
            throw new IndexOutOfBoundsException("there is no such mason");
        }
        boolean isSize = what == 'l' || what == 'h' || what == 't';
        if (!isSize || by < 1) {
            throw new IllegalArgumentException("there is no such size, or nothing to take off");
        }
        Stone held = neededHand();
        if (by > edge || by >= held.measure(what)) {
            throw new UnsupportedOperationException("nothing would be left, or the edge is less");
        }
        held.cutOff(what, by);
        edge -= by;
        paid[mason] += PAY * by;
        return paid[mason];
    }

    public int whet() {
        int before = edge;
        edge = FULL_EDGE;
        return before;
    }

    // ---- the quarry

    public int quarry(int width, int depth) throws IllegalArgumentException {
        if (!isWithin(width, Pit.LEAST_WIDE, Pit.MOST_WIDE) || !isWithin(depth, 1, DEEPEST_STONE)) {
            throw new IllegalArgumentException("a quarry cannot be like that");
        }
        int before = pit.bedCount;
        pit.open(width, depth);
        return before;
    }

    public int bed(int height) throws IllegalArgumentException, IllegalStateException {
        if (!isWithin(height, 1, HIGHEST_STONE)) {
            throw new IllegalArgumentException("the height is out of range");
        }
        if (!pit.isOpen() || pit.bedCount >= Pit.MOST_BEDS) {
            throw new IllegalStateException("there is no quarry, or it has 6 beds");
        }
        return pit.addBed(height);
    }

    public boolean split(int place) throws IllegalStateException, IllegalArgumentException {
        if (!pit.isOpen()) {
            throw new IllegalStateException("there is no quarry");
        }
        if (place < 1 || place >= pit.wide) {
            throw new IllegalArgumentException("the place is out of range");
        }
        return pit.addJoint(place);
    }

    public boolean fault(int bed, int place) throws IndexOutOfBoundsException {
        if (!pit.hasBed(bed) || place < 0 || place >= pit.wide) {
            throw new IndexOutOfBoundsException("there is no such bed or place");
        }
        return pit.addFault(bed, place);
    }

    public int blocks(int bed) throws IndexOutOfBoundsException {
        if (!pit.hasBed(bed)) {
            throw new IndexOutOfBoundsException("there is no such bed");
        }
        return pit.countBlocks(bed);
    }

    public int take(int bed, int block) throws IndexOutOfBoundsException, UnsupportedOperationException,
            IllegalStateException {
        int begin = pit.hasBed(bed) ? pit.beginOf(block) : NONE;
        if (begin == NONE) {
            throw new IndexOutOfBoundsException("there is no such bed or block");
        }
        if (!pit.canGive(bed, begin)) {
            throw new UnsupportedOperationException("the block cannot be taken");
        }
        needRoomForStone();
        int length = pit.giveBlock(bed, begin);
        return addToHeap(length, pit.heightOf(bed), pit.deep, day + DAYS_OF_SAP_BEHIND);
    }

    public int pass(int days) throws IllegalArgumentException {
        if (!isWithin(days, 1, LONGEST_PASS)) {
            throw new IllegalArgumentException("the days are out of range");
        }
        day += days;
        return day;
    }

    public int frost() {
        int suffering = 0;
        // frost changes lengths, by which the heap is in order: it is put up anew
        pile.clear();
        for (int i = 0; i < stoneCount; i++) {
            Stone stone = stoneAt(i);
            if (stone == null || stone.state != IN_HEAP) {
                continue;
            }
            if (stone.sapUntil >= day) {
                suffering++;
                stone.freeze();
            }
            if (stone.state == IN_HEAP) {
                pile.add(stone);
            }
        }
        return suffering;
    }

    // ---- the wall

    public int build(int length, int base, int batter) throws IllegalArgumentException {
        boolean isSound = isWithin(length, SHORTEST_WALL, LONGEST_WALL) && isWithin(base, 4, 12)
                && isWithin(batter, 0, 2);
        if (!isSound) {
            throw new IllegalArgumentException("a wall cannot be like that");
        }
        for (int i = 0; i < stoneCount; i++) {
            Stone stone = stoneAt(i);
            if (stone != null && stone.isOfWall()) {
                stone.leaveWall(GONE);
            }
        }
        wall.begin(length, base, batter);
        return wall.courseCount;
    }

    public int runs(int courses) throws IllegalArgumentException, UnsupportedOperationException {
        if (!isWithin(courses, 1, 4)) {
            throw new IllegalArgumentException("the number of courses is out of range");
        }
        if (wall.longestRun() > courses) {
            throw new UnsupportedOperationException("a joint runs up farther");
        }
        int before = wall.mostRuns;
        wall.mostRuns = courses;
        return before;
    }

    public int lay(int course, boolean isFront, int place) throws IllegalStateException, IndexOutOfBoundsException,
            UnsupportedOperationException {
        Stone held = neededHandAtWall();
        Course found = neededCourse(course);
        needPlace(place);
        if (!wall.canLay(held, found, isFront, place)) {
            throw new UnsupportedOperationException("the stone cannot be laid there");
        }
        putOutOfHand(held, IN_WALL);
        wall.putIn(held, found, isFront, place);
        return wall.countPins();
    }

    public int pack(int course) throws IllegalStateException, IndexOutOfBoundsException,
            UnsupportedOperationException {
        Stone held = neededHandAtWall();
        Course found = neededCourse(course);
        if (held.volume() > wall.roomOf(found)) {
            throw new UnsupportedOperationException("there is not so much room");
        }
        putOutOfHand(held, PACKED);
        found.packed += held.volume();
        return wall.roomOf(found);
    }

    public int cope() throws IllegalStateException, UnsupportedOperationException {
        Stone held = neededHandAtWall();
        if (!wall.canCope(held)) {
            throw new UnsupportedOperationException("the cope cannot be put");
        }
        putOutOfHand(held, AS_COPE);
        return wall.putCope(held);
    }

    public int at(int course, boolean isFront, int place) throws IllegalStateException, IndexOutOfBoundsException,
            NoSuchElementException {
        needWall();
        Course found = neededCourse(course);
        needPlace(place);
        Stone lying = found.lying(isFront, place);
        if (lying == null) {
            throw new NoSuchElementException("there is no stone");
        }
        return lying.number;
    }

    public int width(int course) throws IllegalStateException, IndexOutOfBoundsException {
        needWall();
        return neededCourse(course).wide;
    }

    public int room(int course) throws IllegalStateException, IndexOutOfBoundsException {
        needWall();
        return wall.roomOf(neededCourse(course));
    }

    public boolean isComplete(int course) throws IllegalStateException, IndexOutOfBoundsException {
        needWall();
        return wall.isFull(neededCourse(course));
    }

    public int throughs(int course) throws IllegalStateException, IndexOutOfBoundsException {
        needWall();
        return wall.countThroughs(neededCourse(course));
    }

    public int fill(int course, boolean isFront) throws IllegalStateException, IndexOutOfBoundsException,
            NoSuchElementException {
        needWall();
        Course found = neededCourse(course);
        int fewest = filling.find(wall, pile, found, isFront);
        if (fewest == NONE) {
            throw new NoSuchElementException("the skin cannot be filled");
        }
        return fewest;
    }

    public int fillAt(int course, boolean isFront, int index) throws IllegalStateException,
            IndexOutOfBoundsException, NoSuchElementException {
        needWall();
        Course found = neededCourse(course);
        int fewest = filling.find(wall, pile, found, isFront);
        Stone chosen = index < fewest ? filling.chosenAt(index) : null;
        if (chosen == null) {
            throw new NoSuchElementException("the filling has no such stone");
        }
        return chosen.number;
    }

    // ---- loads and pushes

    public long press(boolean isFront, int place, long load) throws IllegalStateException, IndexOutOfBoundsException,
            IllegalArgumentException, NoSuchElementException {
        needWall();
        needPlace(place);
        if (load < 1) {
            throw new IllegalArgumentException("the load is below 1");
        }
        Stone highest = wall.highestAt(isFront, place);
        if (highest == null) {
            throw new NoSuchElementException("there is no stone");
        }
        highest.loads = added(highest.loads, load);
        return highest.loads;
    }

    public long loadOn(int stone) throws IndexOutOfBoundsException, UnsupportedOperationException {
        Stone found = knownStone(stone);
        if (!found.bearsLoad()) {
            throw new UnsupportedOperationException("the stone is not laid, and no cope");
        }
        wall.reckonLoads();
        return found.has;
    }

    public long push(int course, long push) throws IllegalStateException, IndexOutOfBoundsException,
            IllegalArgumentException {
        needWall();
        Course found = neededCourse(course);
        if (push < 0) {
            throw new IllegalArgumentException("the push is below 0");
        }
        long before = found.push;
        found.push = push;
        return before;
    }

    public int friction(int hundredths) throws IllegalArgumentException {
        if (!isWithin(hundredths, 10, 90)) {
            throw new IllegalArgumentException("the friction is out of range");
        }
        int before = wall.rub;
        wall.rub = hundredths;
        return before;
    }

    public int mover() throws IllegalStateException, NoSuchElementException {
        return neededMover().number;
    }

    public int fall() throws IllegalStateException, NoSuchElementException {
        return wall.letFall(neededMover(), pile);
    }

    // ---- arches

    public int arch(int stones) throws IllegalArgumentException {
        if (!isWithin(stones, 2, HalfArch.MOST)) {
            throw new IllegalArgumentException("an arch cannot have so many stones");
        }
        int before = half.setCount;
        half.begin(stones);
        return before;
    }

    public int voussoir(int index, int width, int weight, int low, int high) throws IllegalStateException,
            IndexOutOfBoundsException, IllegalArgumentException, UnsupportedOperationException {
        needArch();
        if (!half.hasStone(index)) {
            throw new IndexOutOfBoundsException("the arch has no such stone");
        }
        if (!isWithin(width, 1, 99) || !isWithin(weight, 1, 9999) || !areHeights(low, high)) {
            throw new IllegalArgumentException("a number is out of range");
        }
        if (half.isSet(index)) {
            throw new UnsupportedOperationException("the stone is set");
        }
        return half.tell(index, width, weight, low, high);
    }

    public int crown(int low, int high) throws IllegalStateException, IllegalArgumentException,
            UnsupportedOperationException {
        needArch();
        if (!areHeights(low, high)) {
            throw new IllegalArgumentException("a height is out of range");
        }
        if (half.isStruck) {
            throw new UnsupportedOperationException("the centre was struck");
        }
        return half.tellCrown(low, high);
    }

    public int set() throws IllegalStateException, UnsupportedOperationException {
        needArch();
        if (!half.canSetNext()) {
            throw new UnsupportedOperationException("the stone is not told, or all are set");
        }
        return half.setNext();
    }

    public boolean strike() throws IllegalStateException, UnsupportedOperationException {
        needArch();
        if (half.isStruck || half.setCount < half.count) {
            throw new UnsupportedOperationException("the key is not set, or the centre was struck");
        }
        return half.strikeCentre();
    }

    public int thrust() throws IllegalStateException, UnsupportedOperationException, NoSuchElementException {
        needArch();
        if (half.toldCount < half.count) {
            throw new UnsupportedOperationException("not all stones are told");
        }
        int least = half.leastThrust();
        if (least == 0) {
            throw new NoSuchElementException("the arch stands with no thrust");
        }
        return least;
    }

    // ---- gaps

    public int gap(int length, int sheep) throws IllegalArgumentException, IllegalStateException {
        if (!isWithin(length, 1, 99) || !isWithin(sheep, 0, 999)) {
            throw new IllegalArgumentException("a number is out of range");
        }
        if (gaps.count >= Gaps.MOST) {
            throw new IllegalStateException("there are 10 gaps");
        }
        gaps.add(length, sheep);
        return gaps.count;
    }

    public int nextGap() throws NoSuchElementException {
        return gaps.lengthOf(neededGap());
    }

    public long mend(long grant) throws IllegalArgumentException, NoSuchElementException {
        if (grant < 0) {
            throw new IllegalArgumentException("the grant is below 0");
        }
        int index = neededGap();
        gaps.earn(gaps.lengthOf(index), grant);
        gaps.remove(index);
        return gaps.money;
    }

    // ---- old walls

    public int oldWall() throws IllegalStateException {
        if (oldWalls.count >= OldWalls.MOST) {
            throw new IllegalStateException("there are 8 old walls");
        }
        return oldWalls.add();
    }

    public int meet(int wall, int other, boolean isBonded) throws IndexOutOfBoundsException,
            IllegalArgumentException, UnsupportedOperationException {
        if (!oldWalls.has(wall) || !oldWalls.has(other)) {
            throw new IndexOutOfBoundsException("there is no such old wall");
        }
        if (wall == other) {
            throw new IllegalArgumentException("both walls are the same");
        }
        if (!(isBonded ? oldWalls.canBond(wall, other) : oldWalls.canButt(wall, other))) {
            throw new UnsupportedOperationException("a wall would be younger than itself");
        }
        if (isBonded) {
            oldWalls.bond(wall, other);
        } else {
            oldWalls.butt(wall, other);
        }
        return oldWalls.phaseOf(wall);
    }

    public int phase(int wall) throws IndexOutOfBoundsException {
        if (!oldWalls.has(wall)) {
            throw new IndexOutOfBoundsException("there is no such old wall");
        }
        return oldWalls.phaseOf(wall);
    }

    // ---- the yard as a whole

    public float wallShare() throws ArithmeticException {
        if (stoneCount == 0) {
            throw new ArithmeticException("there are no stones");
        }
        int inWall = 0;
        for (int i = 0; i < stoneCount; i++) {
            Stone stone = stoneAt(i);
            if (stone != null && stone.isOfWall()) {
                inWall++;
            }
        }
        return (float) inWall / (float) stoneCount;
    }

    public double meanLoad() throws ArithmeticException {
        wall.reckonLoads();
        double sum = 0.0;
        int bearing = 0;
        for (int i = 0; i < stoneCount; i++) {
            Stone stone = stoneAt(i);
            if (stone != null && stone.bearsLoad()) {
                sum += (double) stone.has;
                bearing++;
            }
        }
        if (bearing == 0) {
            throw new ArithmeticException("no stone is laid");
        }
        return sum / (double) bearing;
    }

    public long checksum() {
        long sum = 7;
        for (int i = 0; i < stoneCount; i++) {
            Stone stone = stoneAt(i);
            if (stone != null) {
                sum = 31 * sum + stone.state;
                sum = 31 * sum + stone.length;
            }
        }
        sum = 31 * sum + wall.countPins();
        return 31 * sum + gaps.money;
    }

    public boolean isTrue() {
        for (int i = 0; i < stoneCount; i++) {
            Stone stone = stoneAt(i);
            if (stone == null || !isInOnePlace(stone)) {
                return false;
            }
        }
        boolean isWallSound = wall.isOnStone() && wall.longestRun() <= wall.mostRuns;
        return isWallSound && (!half.isStruck || half.leastThrust() > 0);
    }

    // ---- what the calls share

    private static boolean isWithin(int number, int low, int high) {
        return number >= low && number <= high;
    }

    private static boolean areHeights(int low, int high) {
        return low >= 0 && low <= high && high <= 999;
    }

    /** Adds two numbers that are not below 0, up to the greatest long. */
    private static long added(long one, long other) {
        return one > GREATEST - other ? GREATEST : one + other;
    }

    /** The whole times parts, divided by all, cut; split so that nothing runs over the greatest long on the way. */
    private static long share(long whole, int parts, int all) {
        return all < 1 ? 0 : whole / all * parts + whole % all * parts / all;
    }

    private Stone stoneAt(int number) {
        boolean isThere = number >= 0 && number < stoneCount && number < stones.length;
        return isThere ? stones[number] : null;
    }

    private Stone knownStone(int number) throws IndexOutOfBoundsException {
        Stone found = stoneAt(number);
        if (found == null) {
            throw new IndexOutOfBoundsException("there is no such stone");
        }
        return found;
    }

    private void needRoomForStone() throws IllegalStateException {
        if (stoneCount >= stones.length) {
            throw new IllegalStateException("there are 60 stones");
        }
    }

    private int addToHeap(int length, int height, int tail, int sapUntil) {
        int number = stoneCount;
        if (number < 0 || number >= stones.length) {
            return NONE;
        }
        Stone added = new Stone(number, length, height, tail);
        added.sapUntil = sapUntil;
        stones[number] = added;
        stoneCount++;
        pile.add(added);
        return number;
    }

    private Stone neededHand() throws IllegalStateException {
        Stone held = hand;
        if (held == null) {
            throw new IllegalStateException("there is no stone in the hand");
        }
        return held;
    }

    private Stone neededHandAtWall() throws IllegalStateException {
        needWall();
        return neededHand();
    }

    private void putOutOfHand(Stone held, char state) {
        held.state = state;
        hand = null;
    }

    private void needWall() throws IllegalStateException {
        if (!wall.isBegun()) {
            throw new IllegalStateException("there is no wall");
        }
    }

    private Course neededCourse(int number) throws IndexOutOfBoundsException {
        Course found = wall.courseAt(number);
        if (found == null) {
            throw new IndexOutOfBoundsException("the course cannot be");
        }
        return found;
    }

    private void needPlace(int place) throws IndexOutOfBoundsException {
        if (place < 0 || place >= wall.length) {
            throw new IndexOutOfBoundsException("the wall has no such place");
        }
    }

    private Stone neededMover() throws IllegalStateException, NoSuchElementException {
        needWall();
        wall.reckonLoads();
        Stone found = wall.firstToMove();
        if (found == null) {
            throw new NoSuchElementException("all stones hold");
        }
        return found;
    }

    private void needArch() throws IllegalStateException {
        if (half.count == 0) {
            throw new IllegalStateException("there is no arch");
        }
    }

    private int neededGap() throws NoSuchElementException {
        int index = gaps.indexOfNext();
        if (index == NONE) {
            throw new NoSuchElementException("there is no gap");
        }
        return index;
    }

    private boolean isInOnePlace(Stone stone) {
        boolean isHeld = hand == stone;
        return pile.timesOf(stone) == (stone.state == IN_HEAP ? 1 : 0)
                && isHeld == (stone.state == IN_HAND)
                && stone.liesInWall() == (stone.state == IN_WALL)
                && wall.isCope(stone) == (stone.state == AS_COPE);
    }

    /** One stone, wherever it is. */
    private static final class Stone {
        final int number;
        int length;
        int height;
        int tail;
        char state = IN_HEAP;
        /** The last day on which it is full of sap. */
        int sapUntil;
        /** The course in which it lies, if it does. */
        Course course;
        /** The first place that it takes, in the wall or on it. */
        int begin;
        boolean isInFront;
        boolean isInBack;
        boolean isFalling;
        /** The loads that were put on it. */
        long loads;
        /** What it has, as far as it was reckoned. */
        long has;
        /** How many places of the stone above, whose load is passed on now, are on it. */
        int bearing;

        Stone(int number, int length, int height, int tail) {
            this.number = number;
            this.length = length;
            this.height = height;
            this.tail = tail;
        }

        int volume() {
            return length * height * tail;
        }

        int weight() {
            return WEIGHT_OF_VOLUME * volume();
        }

        /** A size by its letter, 0 if there is no such one. */
        int measure(char what) {
            if (what == 'l') {
                return length;
            }
            if (what == 'h') {
                return height;
            }
            if (what == 't') {
                return tail;
            }
            return what == 'w' ? weight() : 0;
        }

        void cutOff(char what, int by) {
            if (what == 'l') {
                length -= by;
            } else if (what == 'h') {
                height -= by;
            } else {
                tail -= by;
            }
        }

        void freeze() {
            if (length == 1) {
                state = GONE;
            } else {
                length /= 2;
            }
        }

        boolean isOfWall() {
            return state == IN_WALL || state == PACKED || state == AS_COPE;
        }

        boolean bearsLoad() {
            return state == IN_WALL || state == AS_COPE;
        }

        void leaveWall(char newState) {
            state = newState;
            course = null;
            isFalling = false;
            loads = 0;
        }

        void settle(Course newCourse, boolean inFront, boolean inBack, int place) {
            course = newCourse;
            isInFront = inFront;
            isInBack = inBack;
            begin = place;
        }

        boolean isIn(boolean isFront) {
            return isFront ? isInFront : isInBack;
        }

        boolean isThrough() {
            return isInFront && isInBack;
        }

        /** Its places in skins: a through or a cope has each of its places twice. */
        int skinPlaces() {
            return isInFront && isInBack ? 2 * length : length;
        }

        boolean isAtPlace(int place) {
            return place >= begin && place < begin + length;
        }

        boolean liesInWall() {
            if (course == null) {
                return false;
            }
            for (int place = begin; place < begin + length; place++) {
                boolean isMissing = isInFront && course.lying(true, place) != this
                        || isInBack && course.lying(false, place) != this;
                if (isMissing) {
                    return false;
                }
            }
            return true;
        }

        /** Whether one place of it, at least, is on a stone that falls. */
        boolean isOnFalling(Course below) {
            for (int place = begin; place < begin + length; place++) {
                if (isInFront && below.isFallingAt(true, place) || isInBack && below.isFallingAt(false, place)) {
                    return true;
                }
            }
            return false;
        }
    }

    /** The stones of the heap, in its order. */
    private static final class Heap {
        private final Stone[] order = new Stone[MOST_STONES];
        private int count;

        Stone get(int index) {
            return index >= 0 && index < count && index < order.length ? order[index] : null;
        }

        void clear() {
            count = 0;
        }

        void add(Stone stone) {
            if (count < 0 || count >= order.length) {
                return;
            }
            int index = count;
            while (index > 0 && isAhead(stone, order[index - 1])) {
                order[index] = order[index - 1];
                index--;
            }
            order[index] = stone;
            count++;
        }

        void remove(Stone stone) {
            int kept = 0;
            for (int i = 0; i < count && i < order.length; i++) {
                if (order[i] != stone) {
                    order[kept] = order[i];
                    kept++;
                }
            }
            count = kept;
        }

        int timesOf(Stone stone) {
            int times = 0;
            for (int i = 0; i < count && i < order.length; i++) {
                if (order[i] == stone) {
                    times++;
                }
            }
            return times;
        }

        private static boolean isAhead(Stone one, Stone other) {
            if (other == null) {
                return true;
            }
            if (one.height != other.height) {
                return one.height > other.height;
            }
            if (one.length != other.length) {
                return one.length > other.length;
            }
            if (one.tail != other.tail) {
                return one.tail > other.tail;
            }
            return one.number < other.number;
        }
    }

    /** The quarry; joints, faults and what was taken are kept as bits by their places. */
    private static final class Pit {
        static final int LEAST_WIDE = 4;
        static final int MOST_WIDE = 30;
        static final int MOST_BEDS = 6;

        private final int[] heights = new int[MOST_BEDS];
        private final int[] faults = new int[MOST_BEDS];
        private final int[] taken = new int[MOST_BEDS];
        private int joints;
        private int bedCount;
        /** 0 as long as there is no quarry. */
        private int wide;
        private int deep;

        boolean isOpen() {
            return wide > 0;
        }

        void open(int newWide, int newDeep) {
            wide = newWide;
            deep = newDeep;
            joints = 0;
            bedCount = 0;
        }

        boolean hasBed(int bed) {
            return bed >= 0 && bed < bedCount && bed < MOST_BEDS;
        }

        int addBed(int height) {
            int bed = bedCount;
            if (bed < 0 || bed >= MOST_BEDS) {
                return NONE;
            }
            heights[bed] = height;
            faults[bed] = 0;
            taken[bed] = 0;
            bedCount++;
            return bed;
        }

        int heightOf(int bed) {
            return hasBed(bed) ? heights[bed] : 0;
        }

        private boolean hasJoint(int place) {
            return (joints >> place & 1) != 0;
        }

        boolean addJoint(int place) {
            boolean isNew = !hasJoint(place);
            joints |= 1 << place;
            return isNew;
        }

        boolean addFault(int bed, int place) {
            if (!hasBed(bed)) {
                return false;
            }
            boolean isNew = (faults[bed] >> place & 1) == 0;
            faults[bed] |= 1 << place;
            return isNew;
        }

        /** The place at which a block begins, NONE if there is no such block. */
        int beginOf(int block) {
            int left = block;
            for (int place = 0; place < wide; place++) {
                boolean isBegin = place == 0 || hasJoint(place);
                if (isBegin && left == 0) {
                    return place;
                }
                if (isBegin) {
                    left--;
                }
            }
            return NONE;
        }

        private int endOf(int begin) {
            int end = begin + 1;
            while (end < wide && !hasJoint(end)) {
                end++;
            }
            return end;
        }

        private static int bitsBetween(int begin, int end) {
            return (1 << end) - (1 << begin);
        }

        boolean canGive(int bed, int begin) {
            int end = endOf(begin);
            if (!hasBed(bed) || end - begin > LONGEST_STONE) {
                return false;
            }
            return ((faults[bed] | taken[bed]) & bitsBetween(begin, end)) == 0;
        }

        int countBlocks(int bed) {
            int blocks = 0;
            for (int place = 0; place < wide; place++) {
                if ((place == 0 || hasJoint(place)) && canGive(bed, place)) {
                    blocks++;
                }
            }
            return blocks;
        }

        /** Takes a block away, and answers its length. */
        int giveBlock(int bed, int begin) {
            int end = endOf(begin);
            if (hasBed(bed)) {
                taken[bed] |= bitsBetween(begin, end);
            }
            return end - begin;
        }
    }

    /** One course of the wall, with what lies at each place of its two skins. */
    private static final class Course {
        final int number;
        private final Stone[] front = new Stone[LONGEST_WALL];
        private final Stone[] back = new Stone[LONGEST_WALL];
        int wide;
        /** 0 as long as no stone is laid in it. */
        int height;
        /** The volume of all that was packed in it. */
        int packed;
        long push;

        Course(int number) {
            this.number = number;
        }

        void begin(int newWide) {
            wide = newWide;
            height = 0;
            packed = 0;
            push = 0;
            for (int i = 0; i < LONGEST_WALL; i++) {
                front[i] = null;
                back[i] = null;
            }
        }

        Stone lying(boolean isFront, int place) {
            if (place < 0 || place >= LONGEST_WALL) {
                return null;
            }
            return isFront ? front[place] : back[place];
        }

        /** The stone that begins at a place of a skin; a through is told in the front alone, so that none comes twice. */
        Stone beginning(boolean isFront, int place) {
            Stone stone = lying(isFront, place);
            boolean isMet = stone != null && stone.begin == place && (isFront || !stone.isThrough());
            return isMet ? stone : null;
        }

        boolean isFallingAt(boolean isFront, int place) {
            Stone stone = lying(isFront, place);
            return stone != null && stone.isFalling;
        }

        /** Writes what lies at all places of a stone: the stone itself, or null. */
        void write(Stone stone, Stone lying) {
            int end = Math.min(stone.begin + stone.length, LONGEST_WALL);
            for (int place = Math.max(stone.begin, 0); place < end; place++) {
                if (stone.isInFront) {
                    front[place] = lying;
                }
                if (stone.isInBack) {
                    back[place] = lying;
                }
            }
        }

        /** How many places of both skins have stones. */
        int filledPlaces() {
            int filled = 0;
            for (int i = 0; i < LONGEST_WALL; i++) {
                filled += (front[i] != null ? 1 : 0) + (back[i] != null ? 1 : 0);
            }
            return filled;
        }

        /** The width that is left between the skins at a place, 0 unless both have a stone there. */
        int gapAt(int place) {
            Stone inFront = lying(true, place);
            Stone inBack = lying(false, place);
            if (inFront == null || inBack == null || inFront == inBack) {
                return 0;
            }
            return wide - inFront.tail - inBack.tail;
        }

        long pushOn(Stone stone, int filled) {
            return share(push, stone.skinPlaces(), filled);
        }
    }

    /** The wall with its courses and copes. */
    private static final class Wall {
        private final Course[] courses = new Course[MOST_COURSES];
        private final Stone[] copes = new Stone[LONGEST_WALL];
        private int copeCount;
        /** How far the copes go. */
        private int coped;
        /** 0 as long as there is no wall. */
        private int length;
        private int courseCount;
        private int mostRuns = 1;
        private int rub = 50;

        Wall() {
            for (int i = 0; i < MOST_COURSES; i++) {
                courses[i] = new Course(i);
            }
        }

        boolean isBegun() {
            return length > 0;
        }

        void begin(int newLength, int base, int batter) {
            length = newLength;
            courseCount = 0;
            clearCopes();
            for (int i = 0; i < MOST_COURSES; i++) {
                Course course = courses[i];
                int wide = base - i * batter;
                if (course != null && wide >= LEAST_WIDTH) {
                    course.begin(wide);
                    courseCount++;
                }
            }
        }

        private void clearCopes() {
            copeCount = 0;
            coped = 0;
        }

        Course courseAt(int number) {
            boolean isThere = number >= 0 && number < courseCount && number < MOST_COURSES;
            return isThere ? courses[number] : null;
        }

        /** The highest course that has stones. */
        private Course topCourse() {
            for (int i = courseCount - 1; i >= 0; i--) {
                Course course = courseAt(i);
                if (course != null && course.height > 0) {
                    return course;
                }
            }
            return null;
        }

        // -- laying

        boolean canLay(Stone stone, Course course, boolean isFront, int place) {
            boolean isOfHeight = course.height == 0 || stone.height == course.height
                    || stone.height == course.height - 1;
            if (copeCount > 0 || !isOfHeight || place + stone.length > length) {
                return false;
            }
            if (stone.tail >= course.wide) {
                return isSkinOpen(stone, course, true, place) && isSkinOpen(stone, course, false, place);
            }
            return isSkinOpen(stone, course, isFront, place) && doTailsFit(stone, course, isFront, place);
        }

        private boolean isSkinOpen(Stone stone, Course course, boolean isFront, int place) {
            int end = place + stone.length;
            for (int i = place; i < end; i++) {
                if (course.lying(isFront, i) != null || !isBorne(course, isFront, i)) {
                    return false;
                }
            }
            return mayHaveJoint(course, isFront, place) && mayHaveJoint(course, isFront, end);
        }

        private boolean doTailsFit(Stone stone, Course course, boolean isFront, int place) {
            for (int i = place; i < place + stone.length; i++) {
                Stone other = course.lying(!isFront, i);
                if (other != null && stone.tail + other.tail > course.wide) {
                    return false;
                }
            }
            return true;
        }

        private boolean isBorne(Course course, boolean isFront, int place) {
            Course below = courseAt(course.number - 1);
            return below == null || below.lying(isFront, place) != null;
        }

        void putIn(Stone stone, Course course, boolean isFront, int place) {
            boolean isThrough = stone.tail >= course.wide;
            stone.settle(course, isFront || isThrough, !isFront || isThrough, place);
            course.write(stone, stone);
            if (course.height == 0) {
                course.height = stone.height;
            }
        }

        int countPins() {
            int pins = 0;
            for (int i = 0; i < courseCount; i++) {
                Course course = courseAt(i);
                for (int place = 0; course != null && place < length; place++) {
                    pins += pinOf(course.beginning(true, place), course);
                    pins += pinOf(course.beginning(false, place), course);
                }
            }
            return pins;
        }

        private static int pinOf(Stone stone, Course course) {
            return stone != null && stone.height < course.height ? 1 : 0;
        }

        int countThroughs(Course course) {
            int throughs = 0;
            for (int place = 0; place < length; place++) {
                Stone stone = course.beginning(true, place);
                if (stone != null && stone.isThrough()) {
                    throughs++;
                }
            }
            return throughs;
        }

        int roomOf(Course course) {
            int gap = 0;
            for (int place = 0; place < length; place++) {
                gap += course.gapAt(place);
            }
            return Math.max(0, gap * course.height - course.packed);
        }

        boolean isFull(Course course) {
            return firstFree(course, true) == length && firstFree(course, false) == length;
        }

        /** The first place of a skin at which nothing lies, the length if there is none. */
        int firstFree(Course course, boolean isFront) {
            int place = 0;
            while (place < length && course.lying(isFront, place) != null) {
                place++;
            }
            return place;
        }

        /** Whether all places from one on are free, and have stones below. */
        boolean isOpenFrom(Course course, boolean isFront, int first) {
            for (int place = first; place < length; place++) {
                if (course.lying(isFront, place) != null || !isBorne(course, isFront, place)) {
                    return false;
                }
            }
            return true;
        }

        // -- joints; one at a number is at the left of the place with that number

        private boolean hasJoint(Course course, boolean isFront, int joint) {
            boolean isInside = joint > 0 && joint < length;
            return isInside && course.lying(isFront, joint - 1) != course.lying(isFront, joint);
        }

        /** Whether a joint in that course would not run up too far, with the other courses as they are. */
        boolean mayHaveJoint(Course course, boolean isFront, int joint) {
            if (joint <= 0 || joint >= length) {
                return true;
            }
            return 1 + runFrom(course, -1, isFront, joint) + runFrom(course, 1, isFront, joint) <= mostRuns;
        }

        /** How many courses one beside the other, in a direction from one on, have a joint. */
        private int runFrom(Course course, int step, boolean isFront, int joint) {
            int run = 0;
            while (run < MOST_COURSES) {
                Course next = courseAt(course.number + step * (run + 1));
                if (next == null || !hasJoint(next, isFront, joint)) {
                    break;
                }
                run++;
            }
            return run;
        }

        int longestRun() {
            int longest = 0;
            for (int joint = 1; joint < length; joint++) {
                longest = Math.max(longest, longestRunAt(true, joint));
                longest = Math.max(longest, longestRunAt(false, joint));
            }
            return longest;
        }

        private int longestRunAt(boolean isFront, int joint) {
            int longest = 0;
            int run = 0;
            for (int i = 0; i < courseCount; i++) {
                Course course = courseAt(i);
                run = course != null && hasJoint(course, isFront, joint) ? run + 1 : 0;
                longest = Math.max(longest, run);
            }
            return longest;
        }

        // -- copes

        boolean canCope(Stone stone) {
            Course top = topCourse();
            return top != null && isFull(top) && stone.tail >= top.wide
                    && coped + stone.length <= length && copeCount < copes.length;
        }

        int putCope(Stone stone) {
            if (copeCount >= 0 && copeCount < copes.length) {
                stone.settle(null, true, true, coped);
                copes[copeCount] = stone;
                copeCount++;
                coped += stone.length;
            }
            return coped;
        }

        private Stone copeAt(int index) {
            return index >= 0 && index < copeCount && index < copes.length ? copes[index] : null;
        }

        boolean isCope(Stone stone) {
            for (int i = 0; i < copeCount; i++) {
                if (copeAt(i) == stone) {
                    return true;
                }
            }
            return false;
        }

        // -- loads

        Stone highestAt(boolean isFront, int place) {
            for (int i = 0; i < copeCount; i++) {
                Stone cope = copeAt(i);
                if (cope != null && cope.isAtPlace(place)) {
                    return cope;
                }
            }
            for (int i = courseCount - 1; i >= 0; i--) {
                Course course = courseAt(i);
                Stone stone = course == null ? null : course.lying(isFront, place);
                if (stone != null) {
                    return stone;
                }
            }
            return null;
        }

        /** Reckons what each stone has, from the copes down: what comes from above must be whole before it is passed on. */
        void reckonLoads() {
            Course top = topCourse();
            if (top == null) {
                return;
            }
            for (int i = 0; i <= top.number; i++) {
                bearOnlyThemselves(courseAt(i));
            }
            for (int i = 0; i < copeCount; i++) {
                Stone cope = copeAt(i);
                if (cope != null) {
                    bearOnlyItself(cope);
                    passOn(cope, top);
                }
            }
            for (int i = top.number; i > 0; i--) {
                passCourseOn(courseAt(i), courseAt(i - 1));
            }
        }

        private void bearOnlyThemselves(Course course) {
            for (int place = 0; course != null && place < length; place++) {
                bearOnlyItself(course.beginning(true, place));
                bearOnlyItself(course.beginning(false, place));
            }
        }

        private static void bearOnlyItself(Stone stone) {
            if (stone != null) {
                stone.has = added(stone.weight(), stone.loads);
            }
        }

        private void passCourseOn(Course course, Course below) {
            for (int place = 0; course != null && below != null && place < length; place++) {
                passOn(course.beginning(true, place), below);
                passOn(course.beginning(false, place), below);
            }
        }

        /** All places on one stone below are counted first: its part is cut once, not at each place. */
        private static void passOn(Stone stone, Course below) {
            if (stone == null) {
                return;
            }
            int end = stone.begin + stone.length;
            for (int place = stone.begin; place < end; place++) {
                countBearing(stone, true, below.lying(true, place));
                countBearing(stone, false, below.lying(false, place));
            }
            for (int place = stone.begin; place < end; place++) {
                giveShare(stone, below.lying(true, place));
                giveShare(stone, below.lying(false, place));
            }
        }

        private static void countBearing(Stone stone, boolean isFront, Stone below) {
            if (below != null && stone.isIn(isFront)) {
                below.bearing++;
            }
        }

        private static void giveShare(Stone stone, Stone below) {
            if (below != null && below.bearing > 0) {
                below.has = added(below.has, share(stone.has, below.bearing, stone.skinPlaces()));
                below.bearing = 0;
            }
        }

        // -- pushes

        private boolean isHeld(Stone stone, Course course, int filled) {
            long hold = stone.has / 100 * rub + stone.has % 100 * rub / 100;
            return course.pushOn(stone, filled) <= hold;
        }

        /** The mover, null if all hold; the loads must have been reckoned. */
        Stone firstToMove() {
            for (int i = courseCount - 1; i >= 0; i--) {
                Course course = courseAt(i);
                Stone found = course == null || course.push == 0 ? null : firstToMoveIn(course);
                if (found != null) {
                    return found;
                }
            }
            return null;
        }

        private Stone firstToMoveIn(Course course) {
            int filled = course.filledPlaces();
            for (int place = 0; place < length; place++) {
                Stone inFront = course.beginning(true, place);
                if (inFront != null && !isHeld(inFront, course, filled)) {
                    return inFront;
                }
                Stone inBack = course.beginning(false, place);
                if (inBack != null && !isHeld(inBack, course, filled)) {
                    return inBack;
                }
            }
            return null;
        }

        /** Lets a stone fall, with all on it and the copes, and answers how many fell. */
        int letFall(Stone first, Heap heap) {
            Course lowest = first.course;
            if (lowest == null) {
                return 0;
            }
            first.isFalling = true;
            for (int i = lowest.number + 1; i < courseCount; i++) {
                markFalling(courseAt(i), courseAt(i - 1));
            }
            int fallen = 0;
            for (int i = lowest.number; i < courseCount; i++) {
                fallen += dropFrom(courseAt(i), heap);
            }
            return fallen + dropCopes(heap);
        }

        private void markFalling(Course course, Course below) {
            for (int place = 0; course != null && below != null && place < length; place++) {
                markIfOnFalling(course.beginning(true, place), below);
                markIfOnFalling(course.beginning(false, place), below);
            }
        }

        private static void markIfOnFalling(Stone stone, Course below) {
            if (stone != null && stone.isOnFalling(below)) {
                stone.isFalling = true;
            }
        }

        private int dropFrom(Course course, Heap heap) {
            int fallen = 0;
            for (int place = 0; course != null && place < length; place++) {
                fallen += dropIfFalling(course.beginning(true, place), course, heap);
                fallen += dropIfFalling(course.beginning(false, place), course, heap);
            }
            if (fallen > 0 && course.filledPlaces() == 0) {
                course.height = 0;
            }
            return fallen;
        }

        private static int dropIfFalling(Stone stone, Course course, Heap heap) {
            if (stone == null || !stone.isFalling) {
                return 0;
            }
            course.write(stone, null);
            stone.leaveWall(IN_HEAP);
            heap.add(stone);
            return 1;
        }

        private int dropCopes(Heap heap) {
            int fallen = 0;
            for (int i = 0; i < copeCount; i++) {
                Stone cope = copeAt(i);
                if (cope != null) {
                    cope.leaveWall(IN_HEAP);
                    heap.add(cope);
                    fallen++;
                }
            }
            clearCopes();
            return fallen;
        }

        // -- what must always hold

        /** Whether no stone of the wall, and no cope, rests on air. */
        boolean isOnStone() {
            for (int i = 0; i < courseCount; i++) {
                Course course = courseAt(i);
                for (int place = 0; course != null && place < length; place++) {
                    if (isOnAir(course, true, place) || isOnAir(course, false, place)) {
                        return false;
                    }
                }
            }
            Course top = topCourse();
            return copeCount == 0 || top != null && isFull(top);
        }

        private boolean isOnAir(Course course, boolean isFront, int place) {
            return course.lying(isFront, place) != null && !isBorne(course, isFront, place);
        }
    }

    /** Searches the filling of a skin. */
    private static final class Filling {
        private static final int MOST_CHOICES = 12;
        private static final int CANNOT_BE = 99;

        private final Stone[] choices = new Stone[MOST_CHOICES];
        private final Stone[] chosen = new Stone[MOST_CHOICES];
        private final int[] lengths = new int[MOST_CHOICES];
        private int choiceCount;
        private int chosenCount;
        /** Whether a stone may end at the left of a place. */
        private final boolean[] mayEnd = new boolean[LONGEST_WALL + 1];
        private int end;
        /** By the set of choices that are laid, 1 more than the fewest that are still needed; 0 as long as it is not known. */
        private final int[] known = new int[1 << MOST_CHOICES];

        /** Finds the filling, and answers how many stones it has, NONE if there is none. */
        int find(Wall wall, Heap heap, Course course, boolean isFront) {
            chosenCount = 0;
            int first = wall.firstFree(course, isFront);
            if (first >= wall.length) {
                return 0;
            }
            if (!wall.isOpenFrom(course, isFront, first)) {
                return NONE;
            }
            gatherChoices(heap, course.height);
            gatherEnds(wall, course, isFront);
            Arrays.fill(known, 0);
            int fewest = fewestFrom(this, 0, first, 0);
            if (fewest >= CANNOT_BE) {
                return NONE;
            }
            choose(first, fewest);
            return fewest;
        }

        Stone chosenAt(int index) {
            return index >= 0 && index < chosenCount && index < chosen.length ? chosen[index] : null;
        }

        private void gatherChoices(Heap heap, int courseHeight) {
            choiceCount = 0;
            Stone top = heap.get(0);
            int height = courseHeight == 0 && top != null ? top.height : courseHeight;
            for (int i = 0; i < heap.count && choiceCount < MOST_CHOICES; i++) {
                Stone stone = heap.get(i);
                if (stone != null && stone.height == height) {
                    choices[choiceCount] = stone;
                    lengths[choiceCount] = stone.length;
                    choiceCount++;
                }
            }
        }

        private void gatherEnds(Wall wall, Course course, boolean isFront) {
            end = wall.length;
            for (int place = 0; place <= end && place < mayEnd.length; place++) {
                mayEnd[place] = wall.mayHaveJoint(course, isFront, place);
            }
        }

        private boolean canEndAt(int place) {
            return place >= 0 && place <= end && place < mayEnd.length && mayEnd[place];
        }

        /** The fewest stones that fill from a place on, with some already laid; each level lays one of the 12. */
        private static int fewestFrom(Filling search, int laid, int place, int depth) {
            if (place == search.end) {
                return 0;
            }
            if (depth >= MOST_CHOICES || laid < 0 || laid >= search.known.length) {
                return CANNOT_BE;
            }
            if (search.known[laid] != 0) {
                return search.known[laid] - 1;
            }
            int fewest = CANNOT_BE;
            int triedLength = 0;
            for (int i = 0; i < search.choiceCount && i < MOST_CHOICES; i++) {
                // choices of one length are side by side in the heap, and fill alike
                if ((laid >> i & 1) != 0 || search.lengths[i] == triedLength) {
                    continue;
                }
                triedLength = search.lengths[i];
                if (search.canEndAt(place + triedLength)) {
                    int more = fewestFrom(search, laid | 1 << i, place + triedLength, depth + 1);
                    fewest = Math.min(fewest, more + 1);
                }
            }
            search.known[laid] = fewest + 1;
            return fewest;
        }

        /** Chooses, one after the other, the first stone of the heap with which the fewest can still be kept. */
        private void choose(int first, int fewest) {
            int laid = 0;
            int place = first;
            for (int depth = 1; depth <= fewest && depth <= MOST_CHOICES; depth++) {
                int index = firstThatKeeps(laid, place, depth, fewest - depth);
                if (index < 0 || index >= MOST_CHOICES) {
                    return;
                }
                chosen[depth - 1] = choices[index];
                chosenCount = depth;
                laid |= 1 << index;
                place += lengths[index];
            }
        }

        private int firstThatKeeps(int laid, int place, int depth, int more) {
            for (int i = 0; i < choiceCount && i < MOST_CHOICES; i++) {
                boolean isFree = (laid >> i & 1) == 0 && canEndAt(place + lengths[i]);
                if (isFree && fewestFrom(this, laid | 1 << i, place + lengths[i], depth) == more) {
                    return i;
                }
            }
            return NONE;
        }
    }

    /** Half of an arch; in its rows the crown is row 0, as a joint without a moment, and stone i is row i + 1. */
    private static final class HalfArch {
        static final int MOST = 8;
        private static final int MOST_THRUST = 20000;
        private static final int NOT_KNOWN = -1;

        private final int[] widths = new int[MOST + 1];
        private final int[] weights = new int[MOST + 1];
        private final int[] lows = new int[MOST + 1];
        private final int[] highs = new int[MOST + 1];
        private final boolean[] isTold = new boolean[MOST + 1];
        private final long[] moments = new long[MOST + 1];
        /** 0 as long as there is no arch. */
        private int count;
        private int toldCount;
        private int setCount;
        private boolean isStruck;
        /** The least thrust, 0 if there is none; kept until the arch changes, as it takes long to find. */
        private int found = NOT_KNOWN;
        private long leastToTry;
        private long mostToTry;

        void begin(int stones) {
            clear();
            count = Math.min(stones, MOST);
            for (int row = 0; row <= MOST; row++) {
                isTold[row] = false;
            }
            tellCrown(0, 999);
        }

        private void clear() {
            count = 0;
            toldCount = 0;
            setCount = 0;
            isStruck = false;
            found = NOT_KNOWN;
        }

        boolean hasStone(int index) {
            return index >= 0 && index < count && index < MOST;
        }

        boolean isSet(int index) {
            return index >= count - setCount;
        }

        int tell(int index, int width, int weight, int low, int high) {
            if (hasStone(index)) {
                int row = index + 1;
                widths[row] = width;
                weights[row] = weight;
                lows[row] = low;
                highs[row] = high;
                toldCount += isTold[row] ? 0 : 1;
                isTold[row] = true;
                found = NOT_KNOWN;
            }
            return toldCount;
        }

        int tellCrown(int low, int high) {
            int before = lows[0];
            lows[0] = low;
            highs[0] = high;
            found = NOT_KNOWN;
            return before;
        }

        boolean canSetNext() {
            int index = count - 1 - setCount;
            return hasStone(index) && isTold[index + 1];
        }

        int setNext() {
            setCount++;
            return count - setCount;
        }

        boolean strikeCentre() {
            if (leastThrust() == 0) {
                clear();
                return false;
            }
            isStruck = true;
            return true;
        }

        int leastThrust() {
            if (found == NOT_KNOWN) {
                found = findThrust();
            }
            return found;
        }

        private int findThrust() {
            reckonMoments();
            narrowThrusts();
            for (long thrust = leastToTry; thrust <= mostToTry && thrust <= MOST_THRUST; thrust++) {
                if (standsWith(thrust)) {
                    return (int) thrust;
                }
            }
            return 0;
        }

        /** All stones so far are farther from a joint than from the one ahead of it by the width between. */
        private void reckonMoments() {
            long weightSoFar = 0;
            for (int row = 1; row <= count && row <= MOST; row++) {
                weightSoFar += weights[row];
                moments[row] = moments[row - 1] + weightSoFar * widths[row];
            }
        }

        /** Leaves out the thrusts with which not even a height that is not whole would do. */
        private void narrowThrusts() {
            leastToTry = 1;
            mostToTry = MOST_THRUST;
            for (int row = 0; row <= count && row <= MOST; row++) {
                for (int other = 0; other <= count && other <= MOST; other++) {
                    narrowBy(lows[row] - highs[other], moments[other] - moments[row]);
                }
            }
        }

        /** The step, the low height of one joint less the high one of another, times the thrust is at most the slack. */
        private void narrowBy(long step, long slack) {
            if (step > 0) {
                mostToTry = Math.min(mostToTry, slack < 0 ? 0 : slack / step);
            } else if (step < 0 && slack < 0) {
                leastToTry = Math.max(leastToTry, (slack + step + 1) / step);
            } else if (slack < 0) {
                mostToTry = 0;
            }
        }

        private boolean standsWith(long thrust) {
            long lowest = 0;
            long highest = GREATEST;
            for (int row = count; row >= 0 && row <= MOST && thrust > 0 && lowest <= highest; row--) {
                long sunk = moments[row] / thrust;
                long sunkAtLeast = moments[row] % thrust == 0 ? sunk : sunk + 1;
                lowest = Math.max(lowest, lows[row] + sunkAtLeast);
                highest = Math.min(highest, highs[row] + sunk);
            }
            return lowest <= highest;
        }
    }

    /** The gaps that are told and not mended, in the order in which they were told, and the money. */
    private static final class Gaps {
        static final int MOST = 10;

        private final int[] lengths = new int[MOST];
        private final int[] sheep = new int[MOST];
        private int count;
        private long money;

        void add(int length, int sheepThrough) {
            if (count >= 0 && count < MOST) {
                lengths[count] = length;
                sheep[count] = sheepThrough;
                count++;
            }
        }

        /** The index of the next gap, NONE without one; the sheep by length are compared as fractions. */
        int indexOfNext() {
            int next = 0;
            for (int i = 1; i < count && i < MOST; i++) {
                if (sheep[i] * lengths[next] > sheep[next] * lengths[i]) {
                    next = i;
                }
            }
            return count > 0 ? next : NONE;
        }

        int lengthOf(int index) {
            return index >= 0 && index < MOST ? lengths[index] : 0;
        }

        void earn(int length, long grant) {
            boolean isTooMuch = length > 0 && grant > (GREATEST - money) / length;
            money = isTooMuch ? GREATEST : money + length * grant;
        }

        void remove(int index) {
            if (index < 0 || index >= count) {
                return;
            }
            for (int i = index; i + 1 < count && i + 1 < MOST; i++) {
                lengths[i] = lengths[i + 1];
                sheep[i] = sheep[i + 1];
            }
            count--;
        }
    }

    /** The old walls; sets of walls are kept as bits by their numbers. */
    private static final class OldWalls {
        static final int MOST = 8;

        /** By wall, all that are of one time with it, itself too. */
        private final int[] times = new int[MOST];
        /** By wall, those that it or one of its time butts. */
        private final int[] butted = new int[MOST];
        private int count;

        int add() {
            int wall = count;
            if (wall < 0 || wall >= MOST) {
                return NONE;
            }
            times[wall] = 1 << wall;
            count++;
            return wall;
        }

        boolean has(int wall) {
            return wall >= 0 && wall < count && wall < MOST;
        }

        private static boolean isIn(int walls, int wall) {
            return (walls >> wall & 1) != 0;
        }

        /** All walls to which one is younger, by way of others too. */
        private int olderThan(int wall) {
            int older = has(wall) ? butted[wall] : 0;
            for (int round = 0; round < count; round++) {
                for (int i = 0; i < count && i < MOST; i++) {
                    if (isIn(older, i)) {
                        older |= butted[i];
                    }
                }
            }
            return older;
        }

        private boolean isYounger(int wall, int other) {
            return has(other) && (olderThan(wall) & times[other]) != 0;
        }

        boolean canBond(int wall, int other) {
            return !isYounger(wall, other) && !isYounger(other, wall);
        }

        boolean canButt(int wall, int other) {
            return has(wall) && !isIn(times[wall], other) && !isYounger(other, wall);
        }

        void bond(int wall, int other) {
            if (!has(wall) || !has(other)) {
                return;
            }
            int time = times[wall] | times[other];
            int older = butted[wall] | butted[other];
            for (int i = 0; i < count && i < MOST; i++) {
                if (isIn(time, i)) {
                    times[i] = time;
                    butted[i] = older;
                }
            }
        }

        void butt(int wall, int other) {
            if (!has(wall) || !has(other)) {
                return;
            }
            for (int i = 0; i < count && i < MOST; i++) {
                if (isIn(times[wall], i)) {
                    butted[i] |= 1 << other;
                }
            }
        }

        /** The phases one after the other: a wall is of the first one before which all that it butts are dated. */
        int phaseOf(int wall) {
            int dated = 0;
            for (int phase = 1; phase <= count; phase++) {
                int now = dated;
                for (int i = 0; i < count && i < MOST; i++) {
                    if ((butted[i] & ~dated) == 0) {
                        now |= 1 << i;
                    }
                }
                if (isIn(now, wall)) {
                    return phase;
                }
                dated = now;
            }
            return 1;
        }
    }
}
