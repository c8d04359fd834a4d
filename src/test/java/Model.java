import java.math.BigInteger;
import java.util.ArrayList;
import java.util.Arrays;
import java.util.Comparator;
import java.util.HashSet;
import java.util.List;
import java.util.NoSuchElementException;
import java.util.Set;
import java.util.TreeSet;

/**
 * The document told once more, in the slowest and plainest way, with lists, sets and whole numbers without
 * an end: ModelTest compares the class with it.
 */
final class Model {
    private static final BigInteger MAX = BigInteger.valueOf(Long.MAX_VALUE);

    private static final class S {
        int l;
        int h;
        int t;
        char state = 'h';
        int full = -1;
        BigInteger loads = BigInteger.ZERO;
    }

    private static final class Told {
        int width;
        int weight;
        int low;
        int high;
    }

    private final List<S> all = new ArrayList<>();
    private final int[] paid = new int[4];
    private int edge = 12;
    private int day;

    private int quarryWidth;
    private int quarryDepth;
    private List<Integer> beds = new ArrayList<>();
    private TreeSet<Integer> joints = new TreeSet<>();
    private Set<List<Integer>> faults = new HashSet<>();
    private Set<List<Integer>> takenAway = new HashSet<>();

    private int length;
    private int base;
    private int batter;
    private int runs = 1;
    private int friction = 50;
    private int[][][] grid;
    private int[] heights;
    private int[] packed;
    private long[] pushes;
    private List<Integer> copes = new ArrayList<>();

    private Told[] arch;
    private int archSet;
    private boolean archStruck;
    private int crownLow;
    private int crownHigh;

    private final List<int[]> gaps = new ArrayList<>();
    private BigInteger money = BigInteger.ZERO;

    private int oldWalls;
    private final boolean[][] bonded = new boolean[8][8];
    private final boolean[][] butts = new boolean[8][8];

    private static void state(boolean isFine) {
        if (!isFine) {
            throw new IllegalStateException();
        }
    }

    private static void bounds(boolean isFine) {
        if (!isFine) {
            throw new IndexOutOfBoundsException();
        }
    }

    private static void argument(boolean isFine) {
        if (!isFine) {
            throw new IllegalArgumentException();
        }
    }

    private static void supported(boolean isFine) {
        if (!isFine) {
            throw new UnsupportedOperationException();
        }
    }

    private static void element(boolean isFine) {
        if (!isFine) {
            throw new NoSuchElementException();
        }
    }

    private static boolean in(int n, int low, int high) {
        return low <= n && n <= high;
    }

    // ---- stones

    public int stone(int l, int h, int t) {
        argument(in(l, 1, 9) && in(h, 1, 4) && in(t, 1, 6));
        state(all.size() < 60);
        return add(l, h, t, -1);
    }

    private int add(int l, int h, int t, int full) {
        S s = new S();
        s.l = l;
        s.h = h;
        s.t = t;
        s.full = full;
        all.add(s);
        return all.size() - 1;
    }

    private S get(int stone) {
        bounds(in(stone, 0, all.size() - 1));
        return all.get(stone);
    }

    public char state(int stone) {
        return get(stone).state;
    }

    private static int volume(S s) {
        return s.l * s.h * s.t;
    }

    public int size(int stone, char what) {
        S s = get(stone);
        argument("lhtw".indexOf(what) >= 0);
        return what == 'l' ? s.l : what == 'h' ? s.h : what == 't' ? s.t : 5 * volume(s);
    }

    private List<Integer> heapOrder() {
        List<Integer> heap = new ArrayList<>();
        for (int i = 0; i < all.size(); i++) {
            if (all.get(i).state == 'h') {
                heap.add(i);
            }
        }
        heap.sort(Comparator.<Integer>comparingInt(i -> -all.get(i).h).thenComparingInt(i -> -all.get(i).l)
                .thenComparingInt(i -> -all.get(i).t).thenComparingInt(i -> i));
        return heap;
    }

    public int heap(int index) {
        List<Integer> heap = heapOrder();
        element(in(index, 0, heap.size() - 1));
        return heap.get(index);
    }

    private int hand() {
        for (int i = 0; i < all.size(); i++) {
            if (all.get(i).state == 'n') {
                return i;
            }
        }
        return -1;
    }

    public int lift(int stone) {
        S s = get(stone);
        supported(s.state == 'h');
        state(hand() < 0);
        s.state = 'n';
        return heapOrder().size();
    }

    public int throwAway() {
        int hand = hand();
        state(hand >= 0);
        all.get(hand).state = 'g';
        return hand;
    }

    public int dress(int mason, char what, int by) {
        bounds(in(mason, 0, 3));
        argument("lht".indexOf(what) >= 0 && by >= 1);
        state(hand() >= 0);
        S s = all.get(hand());
        supported((long) size(hand(), what) - by >= 1 && edge >= by);
        if (what == 'l') {
            s.l -= by;
        } else if (what == 'h') {
            s.h -= by;
        } else {
            s.t -= by;
        }
        edge -= by;
        paid[mason] += 3 * by;
        return paid[mason];
    }

    public int whet() {
        int before = edge;
        edge = 12;
        return before;
    }

    // ---- quarry

    public int quarry(int width, int depth) {
        argument(in(width, 4, 30) && in(depth, 1, 6));
        int before = beds.size();
        quarryWidth = width;
        quarryDepth = depth;
        beds = new ArrayList<>();
        joints = new TreeSet<>();
        faults = new HashSet<>();
        takenAway = new HashSet<>();
        return before;
    }

    public int bed(int height) {
        argument(in(height, 1, 4));
        state(quarryWidth > 0 && beds.size() < 6);
        beds.add(height);
        return beds.size() - 1;
    }

    public boolean split(int place) {
        state(quarryWidth > 0);
        argument(in(place, 1, quarryWidth - 1));
        return joints.add(place);
    }

    public boolean fault(int bed, int place) {
        bounds(in(bed, 0, beds.size() - 1) && in(place, 0, quarryWidth - 1));
        return faults.add(List.of(bed, place));
    }

    private List<int[]> blocksOf() {
        List<Integer> ends = new ArrayList<>(joints);
        ends.add(0, 0);
        ends.add(quarryWidth);
        List<int[]> blocks = new ArrayList<>();
        for (int i = 0; i + 1 < ends.size(); i++) {
            blocks.add(new int[] {ends.get(i), ends.get(i + 1)});
        }
        return blocks;
    }

    private boolean canTake(int bed, int[] block) {
        for (int place = block[0]; place < block[1]; place++) {
            if (faults.contains(List.of(bed, place)) || takenAway.contains(List.of(bed, place))) {
                return false;
            }
        }
        return block[1] - block[0] <= 9;
    }

    public int blocks(int bed) {
        bounds(in(bed, 0, beds.size() - 1));
        int n = 0;
        for (int[] block : blocksOf()) {
            n += canTake(bed, block) ? 1 : 0;
        }
        return n;
    }

    public int take(int bed, int block) {
        bounds(in(bed, 0, beds.size() - 1));
        bounds(in(block, 0, blocksOf().size() - 1));
        int[] b = blocksOf().get(block);
        supported(canTake(bed, b));
        state(all.size() < 60);
        for (int place = b[0]; place < b[1]; place++) {
            takenAway.add(List.of(bed, place));
        }
        return add(b[1] - b[0], beds.get(bed), quarryDepth, day + 9);
    }

    public int pass(int days) {
        argument(in(days, 1, 99));
        day += days;
        return day;
    }

    public int frost() {
        int n = 0;
        for (S s : all) {
            if (s.state == 'h' && s.full >= day) {
                n++;
                if (s.l == 1) {
                    s.state = 'g';
                } else {
                    s.l /= 2;
                }
            }
        }
        return n;
    }

    // ---- wall

    private int courseCount() {
        int n = 0;
        while (n < 8 && base - n * batter >= 2) {
            n++;
        }
        return n;
    }

    public int build(int newLength, int newBase, int newBatter) {
        argument(in(newLength, 4, 24) && in(newBase, 4, 12) && in(newBatter, 0, 2));
        for (S s : all) {
            if ("wpc".indexOf(s.state) >= 0) {
                s.state = 'g';
            }
        }
        length = newLength;
        base = newBase;
        batter = newBatter;
        grid = new int[courseCount()][2][length];
        for (int[][] course : grid) {
            Arrays.fill(course[0], -1);
            Arrays.fill(course[1], -1);
        }
        heights = new int[courseCount()];
        packed = new int[courseCount()];
        pushes = new long[courseCount()];
        copes = new ArrayList<>();
        return courseCount();
    }

    private boolean jointIn(int course, int skin, int place) {
        int left = grid[course][skin][place - 1];
        int right = grid[course][skin][place];
        boolean ends = left >= 0 && left != right;
        boolean begins = right >= 0 && left != right;
        return ends || begins;
    }

    private int longestRun() {
        int longest = 0;
        for (int skin = 0; skin < 2; skin++) {
            for (int place = 1; place < length; place++) {
                for (int from = 0; from < grid.length; from++) {
                    int to = from;
                    while (to < grid.length && jointIn(to, skin, place)) {
                        to++;
                    }
                    longest = Math.max(longest, to - from);
                }
            }
        }
        return longest;
    }

    public int runs(int courses) {
        argument(in(courses, 1, 4));
        supported(length == 0 || longestRun() <= courses);
        int before = runs;
        runs = courses;
        return before;
    }

    private int widthOf(int course) {
        return base - course * batter;
    }

    private boolean isThrough(int course, int stone) {
        return all.get(stone).t >= widthOf(course);
    }

    private void needWallAndHand() {
        state(length > 0 && hand() >= 0);
    }

    public int lay(int course, boolean isFront, int place) {
        needWallAndHand();
        bounds(in(course, 0, courseCount() - 1) && in(place, 0, length - 1));
        int hand = hand();
        S s = all.get(hand);
        supported(copes.isEmpty());
        supported(place + s.l <= length);
        boolean through = isThrough(course, hand);
        int[] skins = through ? new int[] {0, 1} : new int[] {isFront ? 0 : 1};
        for (int i = place; i < place + s.l; i++) {
            for (int skin : skins) {
                supported(grid[course][skin][i] < 0);
                supported(course == 0 || grid[course - 1][skin][i] >= 0);
                int other = grid[course][1 - skin][i];
                supported(through || other < 0 || s.t + all.get(other).t <= widthOf(course));
            }
        }
        supported(heights[course] == 0 || heights[course] == s.h || heights[course] - 1 == s.h);
        for (int skin : skins) {
            Arrays.fill(grid[course][skin], place, place + s.l, hand);
        }
        if (longestRun() > runs) {
            for (int skin : skins) {
                Arrays.fill(grid[course][skin], place, place + s.l, -1);
            }
            supported(false);
        }
        s.state = 'w';
        if (heights[course] == 0) {
            heights[course] = s.h;
        }
        return pins();
    }

    private int pins() {
        Set<Integer> pinned = new HashSet<>();
        for (int course = 0; grid != null && course < grid.length; course++) {
            for (int[] skin : grid[course]) {
                for (int stone : skin) {
                    if (stone >= 0 && all.get(stone).h == heights[course] - 1) {
                        pinned.add(stone);
                    }
                }
            }
        }
        return pinned.size();
    }

    private void needCourse(int course) {
        state(length > 0);
        bounds(in(course, 0, 7) && widthOf(course) >= 2);
    }

    public int pack(int course) {
        needWallAndHand();
        needCourse(course);
        S s = all.get(hand());
        supported(volume(s) <= room(course));
        s.state = 'p';
        packed[course] += volume(s);
        return room(course);
    }

    private int top() {
        int top = -1;
        for (int course = 0; course < grid.length; course++) {
            for (int[] skin : grid[course]) {
                for (int stone : skin) {
                    top = stone >= 0 ? course : top;
                }
            }
        }
        return top;
    }

    private int coped() {
        int n = 0;
        for (int cope : copes) {
            n += all.get(cope).l;
        }
        return n;
    }

    public int cope() {
        needWallAndHand();
        int top = top();
        supported(top >= 0);
        supported(isComplete(top));
        S s = all.get(hand());
        supported(coped() + s.l <= length && s.t >= widthOf(top));
        copes.add(hand());
        s.state = 'c';
        return coped();
    }

    public int at(int course, boolean isFront, int place) {
        state(length > 0);
        bounds(in(course, 0, courseCount() - 1) && in(place, 0, length - 1));
        int stone = grid[course][isFront ? 0 : 1][place];
        element(stone >= 0);
        return stone;
    }

    public int width(int course) {
        needCourse(course);
        return widthOf(course);
    }

    public int room(int course) {
        needCourse(course);
        int room = 0;
        for (int place = 0; place < length; place++) {
            int f = grid[course][0][place];
            int b = grid[course][1][place];
            if (f >= 0 && b >= 0 && f != b) {
                room += heights[course] * (widthOf(course) - all.get(f).t - all.get(b).t);
            }
        }
        return Math.max(0, room - packed[course]);
    }

    public boolean isComplete(int course) {
        needCourse(course);
        for (int place = 0; place < length; place++) {
            if (grid[course][0][place] < 0 || grid[course][1][place] < 0) {
                return false;
            }
        }
        return true;
    }

    public int throughs(int course) {
        needCourse(course);
        Set<Integer> found = new HashSet<>();
        for (int stone : grid[course][0]) {
            if (stone >= 0 && isThrough(course, stone)) {
                found.add(stone);
            }
        }
        return found.size();
    }

    public int fill(int course, boolean isFront) {
        return filling(course, isFront).size();
    }

    public int fillAt(int course, boolean isFront, int index) {
        List<Integer> filling = filling(course, isFront);
        element(in(index, 0, filling.size() - 1));
        return filling.get(index);
    }

    private List<Integer> filling(int course, boolean isFront) {
        needCourse(course);
        int skin = isFront ? 0 : 1;
        int first = 0;
        while (first < length && grid[course][skin][first] >= 0) {
            first++;
        }
        if (first == length) {
            return List.of();
        }
        for (int place = first; place < length; place++) {
            element(grid[course][skin][place] < 0);
            element(course == 0 || grid[course - 1][skin][place] >= 0);
        }
        List<Integer> heap = heapOrder();
        element(!heap.isEmpty());
        int height = heights[course] == 0 ? all.get(heap.get(0)).h : heights[course];
        List<Integer> choices = new ArrayList<>();
        for (int stone : heap) {
            if (all.get(stone).h == height && choices.size() < 12) {
                choices.add(stone);
            }
        }
        for (int many = 1; many <= choices.size(); many++) {
            List<Integer> found = fillFrom(course, skin, first, many, choices, new ArrayList<>());
            if (found != null) {
                return found;
            }
        }
        throw new NoSuchElementException();
    }

    /** Tries the stones in the order of the heap, each sequence of that many: the first that fills is the filling. */
    private List<Integer> fillFrom(int course, int skin, int place, int many, List<Integer> choices, List<Integer> laid) {
        if (place == length) {
            return many == 0 ? laid : null;
        }
        if (many == 0 || place + 9 * many < length || place + many > length) {
            return null;
        }
        Set<Integer> tried = new HashSet<>();
        for (int stone : choices) {
            int l = all.get(stone).l;
            if (laid.contains(stone) || place + l > length || !tried.add(l)) {
                continue;
            }
            if (place + l < length && runWith(course, skin, place + l) > runs) {
                continue;
            }
            List<Integer> next = new ArrayList<>(laid);
            next.add(stone);
            List<Integer> found = fillFrom(course, skin, place + l, many - 1, choices, next);
            if (found != null) {
                return found;
            }
        }
        return null;
    }

    private int runWith(int course, int skin, int place) {
        int low = course;
        while (low > 0 && jointIn(low - 1, skin, place)) {
            low--;
        }
        int high = course;
        while (high + 1 < grid.length && jointIn(high + 1, skin, place)) {
            high++;
        }
        return high - low + 1;
    }

    // ---- loads

    private int copeOver(int place) {
        int from = 0;
        for (int cope : copes) {
            if (in(place, from, from + all.get(cope).l - 1)) {
                return cope;
            }
            from += all.get(cope).l;
        }
        return -1;
    }

    public long press(boolean isFront, int place, long load) {
        state(length > 0);
        bounds(in(place, 0, length - 1));
        argument(load >= 1);
        int found = copeOver(place);
        for (int course = grid.length - 1; course >= 0 && found < 0; course--) {
            found = grid[course][isFront ? 0 : 1][place];
        }
        element(found >= 0);
        S s = all.get(found);
        s.loads = s.loads.add(BigInteger.valueOf(load)).min(MAX);
        return s.loads.longValue();
    }

    /** The stone above at a place of a skin: of that course, or a cope. */
    private int above(int course, int skin, int place) {
        if (course + 1 < grid.length && grid[course + 1][skin][place] >= 0) {
            return grid[course + 1][skin][place];
        }
        return course == top() ? copeOver(place) : -1;
    }

    private int courseOf(int stone) {
        for (int course = 0; course < grid.length; course++) {
            for (int[] skin : grid[course]) {
                for (int lying : skin) {
                    if (lying == stone) {
                        return course;
                    }
                }
            }
        }
        return -1;
    }

    private BigInteger whole(int stone) {
        S s = all.get(stone);
        BigInteger sum = BigInteger.valueOf(5L * volume(s)).add(s.loads);
        int course = courseOf(stone);
        if (course >= 0) {
            Set<Integer> bearing = new TreeSet<>();
            List<Integer> places = new ArrayList<>();
            for (int skin = 0; skin < 2; skin++) {
                for (int place = 0; place < length; place++) {
                    if (grid[course][skin][place] == stone && above(course, skin, place) >= 0) {
                        places.add(above(course, skin, place));
                        bearing.add(above(course, skin, place));
                    }
                }
            }
            for (int a : bearing) {
                int on = 0;
                for (int p : places) {
                    on += p == a ? 1 : 0;
                }
                sum = sum.add(whole(a).multiply(BigInteger.valueOf(on)).divide(BigInteger.valueOf(placesOf(a))));
            }
        }
        return sum.min(MAX);
    }

    private int placesOf(int stone) {
        S s = all.get(stone);
        return s.state == 'c' || isThrough(courseOf(stone), stone) ? 2 * s.l : s.l;
    }

    public long loadOn(int stone) {
        S s = get(stone);
        supported(s.state == 'w' || s.state == 'c');
        return whole(stone).longValue();
    }

    public long push(int course, long push) {
        needCourse(course);
        argument(push >= 0);
        long before = pushes[course];
        pushes[course] = push;
        return before;
    }

    public int friction(int hundredths) {
        argument(in(hundredths, 10, 90));
        int before = friction;
        friction = hundredths;
        return before;
    }

    private boolean holds(int course, int stone) {
        int n = 0;
        for (int[] skin : grid[course]) {
            for (int lying : skin) {
                n += lying >= 0 ? 1 : 0;
            }
        }
        BigInteger push = BigInteger.valueOf(pushes[course]).multiply(BigInteger.valueOf(placesOf(stone)))
                .divide(BigInteger.valueOf(n));
        BigInteger hold = whole(stone).multiply(BigInteger.valueOf(friction)).divide(BigInteger.valueOf(100));
        return push.compareTo(hold) <= 0;
    }

    public int mover() {
        state(length > 0);
        for (int course = grid.length - 1; course >= 0; course--) {
            for (int place = 0; place < length; place++) {
                for (int skin = 0; skin < 2; skin++) {
                    int stone = grid[course][skin][place];
                    boolean begins = stone >= 0 && (place == 0 || grid[course][skin][place - 1] != stone);
                    if (begins && !holds(course, stone)) {
                        return stone;
                    }
                }
            }
        }
        throw new NoSuchElementException();
    }

    public int fall() {
        Set<Integer> falling = new TreeSet<>();
        falling.add(mover());
        for (int course = 0; course + 1 < grid.length; course++) {
            for (int skin = 0; skin < 2; skin++) {
                for (int place = 0; place < length; place++) {
                    if (falling.contains(grid[course][skin][place]) && grid[course + 1][skin][place] >= 0) {
                        falling.add(grid[course + 1][skin][place]);
                    }
                }
            }
        }
        for (int course = 0; course < grid.length; course++) {
            boolean isEmpty = true;
            for (int[] skin : grid[course]) {
                for (int place = 0; place < length; place++) {
                    skin[place] = falling.contains(skin[place]) ? -1 : skin[place];
                    isEmpty &= skin[place] < 0;
                }
            }
            heights[course] = isEmpty ? 0 : heights[course];
        }
        falling.addAll(copes);
        copes.clear();
        for (int stone : falling) {
            all.get(stone).state = 'h';
            all.get(stone).loads = BigInteger.ZERO;
        }
        return falling.size();
    }

    // ---- arch

    public int arch(int stones) {
        argument(in(stones, 2, 8));
        int before = arch == null ? 0 : archSet;
        arch = new Told[stones];
        archSet = 0;
        archStruck = false;
        crownLow = 0;
        crownHigh = 999;
        return before;
    }

    private int told() {
        int n = 0;
        for (Told t : arch) {
            n += t == null ? 0 : 1;
        }
        return n;
    }

    public int voussoir(int index, int width, int weight, int low, int high) {
        state(arch != null);
        bounds(in(index, 0, arch.length - 1));
        argument(in(width, 1, 99) && in(weight, 1, 9999) && in(low, 0, 999) && in(high, low, 999));
        supported(index < arch.length - archSet);
        Told t = new Told();
        t.width = width;
        t.weight = weight;
        t.low = low;
        t.high = high;
        arch[index] = t;
        return told();
    }

    public int crown(int low, int high) {
        state(arch != null);
        argument(in(low, 0, 999) && in(high, low, 999));
        supported(!archStruck);
        int before = crownLow;
        crownLow = low;
        crownHigh = high;
        return before;
    }

    public int set() {
        state(arch != null);
        supported(archSet < arch.length);
        supported(arch[arch.length - 1 - archSet] != null);
        archSet++;
        return arch.length - archSet;
    }

    private long moment(int joint) {
        long sum = 0;
        for (int i = 0; i <= joint; i++) {
            long outward = 0;
            for (int j = i; j <= joint; j++) {
                outward += arch[j].width;
            }
            sum += outward * arch[i].weight;
        }
        return sum;
    }

    /** Looks for the height one by one; the heights of a joint, times the thrust, are compared with it. */
    private boolean stands(long thrust, long[] moments) {
        for (long height = crownLow; height <= crownHigh; height++) {
            boolean isIn = true;
            for (int i = arch.length - 1; i >= 0 && isIn; i--) {
                long there = height * thrust - moments[i];
                isIn = arch[i].low * thrust <= there && there <= arch[i].high * thrust;
            }
            if (isIn) {
                return true;
            }
        }
        return false;
    }

    private int least() {
        long[] moments = new long[arch.length];
        for (int i = 0; i < arch.length; i++) {
            moments[i] = moment(i);
        }
        for (int thrust = 1; thrust <= 20000; thrust++) {
            if (stands(thrust, moments)) {
                return thrust;
            }
        }
        return 0;
    }

    public boolean strike() {
        state(arch != null);
        supported(archSet == arch.length && !archStruck);
        if (least() == 0) {
            arch = null;
            return false;
        }
        archStruck = true;
        return true;
    }

    public int thrust() {
        state(arch != null);
        supported(told() == arch.length);
        int least = least();
        element(least > 0);
        return least;
    }

    // ---- gaps and old walls

    public int gap(int gapLength, int sheep) {
        argument(in(gapLength, 1, 99) && in(sheep, 0, 999));
        state(gaps.size() < 10);
        gaps.add(new int[] {gapLength, sheep});
        return gaps.size();
    }

    private int[] next() {
        element(!gaps.isEmpty());
        int[] next = gaps.get(0);
        for (int[] gap : gaps) {
            if ((long) gap[1] * next[0] > (long) next[1] * gap[0]) {
                next = gap;
            }
        }
        return next;
    }

    public int nextGap() {
        return next()[0];
    }

    public long mend(long grant) {
        argument(grant >= 0);
        int[] next = next();
        gaps.remove(next);
        money = money.add(BigInteger.valueOf(next[0]).multiply(BigInteger.valueOf(grant))).min(MAX);
        return money.longValue();
    }

    public int oldWall() {
        state(oldWalls < 8);
        bonded[oldWalls][oldWalls] = true;
        oldWalls++;
        return oldWalls - 1;
    }

    /** How wall i is to wall j: 2 younger, 1 of one time, 0 not told; by way of others too. */
    private int[][] relations() {
        int[][] r = new int[8][8];
        for (int i = 0; i < 8; i++) {
            for (int j = 0; j < 8; j++) {
                r[i][j] = butts[i][j] ? 2 : bonded[i][j] || bonded[j][i] ? 1 : 0;
            }
        }
        for (int round = 0; round < 8; round++) {
            for (int i = 0; i < 8; i++) {
                for (int j = 0; j < 8; j++) {
                    for (int k = 0; k < 8; k++) {
                        if (r[i][j] > 0 && r[j][k] > 0) {
                            r[i][k] = Math.max(r[i][k], Math.max(r[i][j], r[j][k]));
                        }
                    }
                }
            }
        }
        return r;
    }

    public int meet(int wall, int other, boolean isBonded) {
        bounds(in(wall, 0, oldWalls - 1) && in(other, 0, oldWalls - 1));
        argument(wall != other);
        boolean[][] told = isBonded ? bonded : butts;
        boolean before = told[wall][other];
        told[wall][other] = true;
        int[][] r = relations();
        for (int i = 0; i < 8; i++) {
            if (r[i][i] == 2) {
                told[wall][other] = before;
                supported(false);
            }
        }
        return phase(wall);
    }

    public int phase(int wall) {
        bounds(in(wall, 0, oldWalls - 1));
        int[][] r = relations();
        int greatest = 0;
        for (int other = 0; other < 8; other++) {
            if (r[wall][other] == 2) {
                greatest = Math.max(greatest, phase(other));
            }
        }
        return greatest + 1;
    }

    // ---- the yard

    public float wallShare() {
        if (all.isEmpty()) {
            throw new ArithmeticException();
        }
        int n = 0;
        for (S s : all) {
            n += "wpc".indexOf(s.state) >= 0 ? 1 : 0;
        }
        return (float) n / (float) all.size();
    }

    public double meanLoad() {
        double sum = 0;
        int n = 0;
        for (int i = 0; i < all.size(); i++) {
            if (all.get(i).state == 'w' || all.get(i).state == 'c') {
                sum += (double) whole(i).longValue();
                n++;
            }
        }
        if (n == 0) {
            throw new ArithmeticException();
        }
        return sum / n;
    }

    public long checksum() {
        BigInteger c = BigInteger.valueOf(7);
        BigInteger times = BigInteger.valueOf(31);
        for (S s : all) {
            c = c.multiply(times).add(BigInteger.valueOf(s.state));
            c = c.multiply(times).add(BigInteger.valueOf(s.l));
        }
        c = c.multiply(times).add(BigInteger.valueOf(pins()));
        return c.multiply(times).add(money).longValue();
    }

    public boolean isTrue() {
        return true;
    }
}
