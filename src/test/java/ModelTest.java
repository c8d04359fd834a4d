import java.lang.reflect.InvocationTargetException;
import java.lang.reflect.Method;
import java.util.ArrayList;
import java.util.HashMap;
import java.util.List;
import java.util.Map;
import java.util.Objects;
import java.util.Random;

/** Long runs of calls, the same ones each time, on the class and on the model: each answer must be the same. */
public final class ModelTest {
    private static final Map<String, Method> OURS = methodsOf(Copestone.class);
    private static final Map<String, Method> MODELS = methodsOf(Model.class);
    private static final List<String> NAMES = new ArrayList<>(new java.util.TreeSet<>(OURS.keySet()));

    private static long calls;
    private static int wrong;
    private static final Map<String, Integer> OUTCOMES = new java.util.TreeMap<>();

    private final Copestone ours = new Copestone();
    private final Model model = new Model();
    private final Random random;
    private final StringBuilder told = new StringBuilder();
    private boolean isWrong;
    private int calm = 7;

    private ModelTest(long seed) {
        random = new Random(seed);
    }

    public static void main(String[] args) {
        int runs = args.length > 0 ? Integer.parseInt(args[0]) : 40;
        for (int seed = 0; seed < runs && wrong < 5; seed++) {
            new ModelTest(seed).anyCalls(400);
            new ModelTest(seed).wallCalls(60);
            new ModelTest(seed).fillCalls(40);
            new ModelTest(seed).neatCalls();
            new ModelTest(seed).archCalls(8);
            new ModelTest(seed).quarryCalls(150);
            new ModelTest(seed).gapAndOldWallCalls(150);
        }
        if (args.length > 1) {
            OUTCOMES.forEach((outcome, many) -> System.out.println(outcome + " " + many));
        }
        System.out.println(calls + " calls compared with the model, " + wrong + " runs wrong");
        System.exit(wrong == 0 ? 0 : 1);
    }

    private static Map<String, Method> methodsOf(Class<?> face) {
        Map<String, Method> methods = new HashMap<>();
        for (Method method : face.getDeclaredMethods()) {
            if (java.lang.reflect.Modifier.isPublic(method.getModifiers())) {
                method.setAccessible(true);
                methods.put(method.getName(), method);
            }
        }
        return methods;
    }

    private static Object answerOf(Method method, Object on, Object[] args) {
        try {
            return method.invoke(on, args);
        } catch (InvocationTargetException e) {
            return e.getCause().getClass().getName();
        } catch (IllegalAccessException e) {
            throw new IllegalStateException(e);
        }
    }

    /** Calls both; answers what they answered, an exception's name if they threw. */
    private Object call(String name, Object... args) {
        Object want = answerOf(MODELS.get(name), model, args);
        Object got = answerOf(OURS.get(name), ours, args);
        calls++;
        OUTCOMES.merge(name + (want instanceof String ? " throws " + want : " answers"), 1, Integer::sum);
        told.append(name).append(java.util.Arrays.toString(args)).append(" = ").append(want).append('\n');
        if (!Objects.equals(got, want) && !isWrong) {
            isWrong = true;
            wrong++;
            System.out.println(told + "answered " + got + ", the model says " + want);
        }
        return want;
    }

    private boolean did(String name, Object... args) {
        return !(call(name, args) instanceof String);
    }

    private int between(int low, int high) {
        return low + random.nextInt(high - low + 1);
    }

    private boolean flip() {
        return random.nextBoolean();
    }

    private boolean rarely() {
        return random.nextInt(12) == 0;
    }

    private long anyLong() {
        switch (random.nextInt(6)) {
            case 0:
                return Long.MAX_VALUE;
            case 1:
                return Long.MAX_VALUE / between(2, 40);
            case 2:
                return between(-2, 2);
            default:
                return between(1, 2000);
        }
    }

    private Object anyOf(Class<?> type) {
        if (type == boolean.class) {
            return flip();
        }
        if (type == char.class) {
            return "lhtwx".charAt(random.nextInt(5));
        }
        if (type == long.class) {
            return rarely() ? (Object) Long.MIN_VALUE : (Object) anyLong();
        }
        if (rarely()) {
            return new int[] {Integer.MIN_VALUE, Integer.MAX_VALUE, -1, 60, 100, 1000}[random.nextInt(6)];
        }
        return between(0, 10);
    }

    /** Any calls with any arguments. */
    private void anyCalls(int many) {
        for (int i = 0; i < many && !isWrong; i++) {
            String name = NAMES.get(random.nextInt(NAMES.size()));
            Class<?>[] types = OURS.get(name).getParameterTypes();
            Object[] args = new Object[types.length];
            for (int j = 0; j < args.length; j++) {
                args[j] = anyOf(types[j]);
            }
            call(name, args);
        }
    }

    /** All that can be seen of the wall. */
    private void look(int courses, int length) {
        for (int course = 0; course < courses && !isWrong; course++) {
            call("room", course);
            call("isComplete", course);
            call("throughs", course);
            call("fill", course, true);
            call("fill", course, false);
            int place = between(0, length - 1);
            call("at", course, flip(), place);
            call("fillAt", course, flip(), between(0, 3));
        }
        for (int stone = 0; stone < 60 && did("state", stone); stone++) {
            call("loadOn", stone);
            call("heap", stone);
        }
        call("mover");
        call("meanLoad");
        call("wallShare");
        call("checksum");
        call("isTrue");
    }

    private void tryEverywhere(int courses, int length) {
        int from = random.nextInt(3) == 0 ? random.nextInt(courses * 2 * length) : 0;
        for (int i = 0; i < courses * 2 * length && !isWrong; i++) {
            int where = (from + i) % (courses * 2 * length);
            if (did("lay", where / (2 * length), where / length % 2 == 0, where % length)) {
                return;
            }
        }
        if (!did("pack", between(0, courses - 1)) && !did("cope")) {
            call("throwAway");
        }
    }

    private void pressAndPush(int courses, int length) {
        if (random.nextInt(3) == 0) {
            call("press", flip(), between(0, length - 1), anyLong());
        }
        if (random.nextInt(4) == 0) {
            call("push", between(0, courses - 1), random.nextInt(3) == 0 ? anyLong() : between(0, 400));
        }
        if (random.nextInt(6) == 0) {
            call("friction", between(9, 91));
        }
        if (random.nextInt(9) == 0) {
            call("runs", between(1, 4));
        }
        if (random.nextInt(calm) == 0) {
            call("fall");
        }
    }

    private int buildAny() {
        int length = between(4, rarely() ? 24 : 8);
        call("runs", between(1, 4));
        call("build", length, between(4, 7), between(0, 2));
        return length;
    }

    /** Walls are built as far as it goes, loaded and pushed. */
    private void wallCalls(int stones) {
        int length = buildAny();
        int courses = (Integer) courses();
        int highest = between(1, 3);
        int longest = between(2, 6);
        int unevenness = between(1, 9);
        int deepest = between(1, 3);
        calm = between(3, 40);
        for (int i = 0; i < stones && !isWrong; i++) {
            int height = random.nextInt(unevenness) == 0 ? Math.max(1, highest - 1) : highest;
            call("stone", between(1, longest), height, between(1, random.nextInt(6) == 0 ? 6 : deepest));
            Object first = call("heap", random.nextInt(4) == 0 ? between(0, 5) : 0);
            boolean isLifted = first instanceof Integer && did("lift", first);
            if (isLifted && (random.nextInt(4) != 0 || !did("cope"))) {
                tryEverywhere(courses, length);
            }
            pressAndPush(courses, length);
            look(courses, length);
            if (random.nextInt(40) == 0) {
                length = buildAny();
                courses = (Integer) courses();
            }
        }
    }

    /** Whole courses with pins and throughs, copes on them, then loads, pushes and falls. */
    private void neatCalls() {
        int length = between(4, 7);
        call("runs", between(2, 4));
        call("build", length, between(4, 5), random.nextInt(3) == 0 ? 1 : 0);
        int courses = Math.min(between(1, 5), (Integer) courses());
        for (int stone = 0; stone < 40 && !isWrong; stone++) {
            layNext(courses, length);
        }
        for (int i = 0; i < 4 && !isWrong; i++) {
            lay(between(1, 4), between(1, 4), between(3, 6), 0, true, length);
        }
        for (int i = 0; i < 25 && !isWrong; i++) {
            call("press", flip(), between(0, length - 1), anyLong());
            call("push", between(0, courses - 1), flip() ? anyLong() : between(0, 900));
            look(courses, length);
            call("cope");
            if (flip()) {
                call("fall");
                layNext(courses, length);
            }
        }
    }

    private void layNext(int courses, int length) {
        for (int course = 0; course < courses; course++) {
            for (boolean isFront : new boolean[] {true, false}) {
                int place = firstFree(course, isFront, length);
                if (place < length) {
                    int longest = Math.min(5, length - place);
                    lay(between(1, longest), between(2, 3), random.nextInt(4) == 0 ? 5 : between(1, 2), course, isFront, place);
                    return;
                }
            }
        }
    }

    /** Lays, puts as a cope, packs, or throws away a new stone. */
    private void lay(int l, int h, int t, int course, boolean isFront, int place) {
        Object stone = call("stone", l, h, t);
        if (!(stone instanceof Integer)) {
            stone = call("heap", between(0, 3));
        }
        if (!did("lift", stone instanceof Integer ? stone : (Object) 0)) {
            return;
        }
        if (!did("lay", course, isFront, place) && !did("cope") && !did("pack", course)) {
            call("throwAway");
        }
        call("checksum");
    }

    private Object courses() {
        int courses = 0;
        while (did("width", courses)) {
            courses++;
        }
        return courses;
    }

    /** Walls are built by their fillings. */
    private void fillCalls(int rounds) {
        int length = between(4, flip() ? 24 : 10);
        call("runs", between(1, 4));
        call("build", length, between(6, 12), between(0, 1));
        int highest = between(1, 2);
        int longest = between(3, 9);
        for (int i = 0; i < 60; i++) {
            call("stone", between(1, longest), between(1, highest), between(1, 3));
        }
        int courses = (Integer) courses();
        for (int i = 0; i < rounds && !isWrong; i++) {
            int course = between(0, Math.min(courses - 1, i / 4));
            boolean isFront = flip();
            Object first = call("fillAt", course, isFront, 0);
            if (first instanceof Integer && did("lift", first) && !did("lay", course, isFront, firstFree(course, isFront, length))) {
                call("dress", 0, 't', 1);
                call("whet");
                if (!did("lay", course, isFront, firstFree(course, isFront, length))) {
                    call("throwAway");
                }
            }
            call("push", course, 0L + between(0, 300));
            if (rarely()) {
                call("fall");
            }
            look(Math.min(courses, 3), length);
        }
    }

    private int firstFree(int course, boolean isFront, int length) {
        int place = 0;
        while (place < length && did("at", course, isFront, place)) {
            place++;
        }
        return place;
    }

    private void archCalls(int arches) {
        for (int i = 0; i < arches && !isWrong; i++) {
            int stones = between(2, rarely() ? 8 : 4);
            call("arch", stones);
            int lowest = random.nextInt(900);
            int widest = flip() ? 99 : 9;
            int heaviest = flip() ? 9999 : 30;
            for (int index = 0; index < stones; index++) {
                int low = rarely() ? between(0, 999) : Math.max(0, lowest - between(0, 30 * (index + 1)));
                int high = Math.min(999, low + random.nextInt(flip() ? 4 : 200));
                call("voussoir", index, between(1, widest), between(1, heaviest), low, high);
                call("set");
            }
            if (flip()) {
                int low = between(0, 999);
                call("crown", low, Math.min(999, low + random.nextInt(400)));
            }
            call("thrust");
            for (int index = 0; index < stones; index++) {
                call("set");
                call("voussoir", between(0, stones - 1), between(1, 9), between(1, 9), lowest, lowest + between(0, 9));
            }
            call("thrust");
            call("strike");
            call("crown", between(0, 10), between(5, 999));
            call("thrust");
            call("isTrue");
        }
    }

    private void quarryCalls(int many) {
        int width = between(4, 30);
        call("quarry", width, between(1, 6));
        call("bed", between(1, 4));
        call("split", width / 2);
        call("split", width / 4);
        for (int i = 0; i < many && !isWrong; i++) {
            int bed = rarely() ? between(0, 6) : between(0, 2);
            switch (random.nextInt(12)) {
                case 0:
                    call("bed", between(1, 4));
                    break;
                case 1:
                case 2:
                    call("split", between(0, width));
                    break;
                case 3:
                    call("fault", bed, between(0, width));
                    break;
                case 4:
                case 5:
                case 6:
                    call("take", bed, between(0, 4));
                    break;
                case 7:
                    call("frost");
                    break;
                case 8:
                    call("pass", between(1, rarely() ? 99 : 5));
                    break;
                case 9:
                    call(flip() ? "throwAway" : "whet");
                    break;
                case 10:
                    call("lift", call("heap", between(0, 2)) instanceof Integer ? call("heap", 0) : (Object) 0);
                    call("dress", between(0, 3), "lht".charAt(random.nextInt(3)), between(1, 4));
                    call("stone", between(1, 9), between(1, 4), between(1, 6));
                    break;
                default:
                    if (rarely() || flip()) {
                        width = between(4, 30);
                        call("quarry", width, between(1, 6));
                    }
            }
            call("blocks", bed);
            for (int index = 0; index < 20; index++) {
                call("heap", index);
                call("size", index, "lhtw".charAt(random.nextInt(4)));
            }
            call("checksum");
            call("isTrue");
        }
    }

    private void gapAndOldWallCalls(int many) {
        for (int i = 0; i < many && !isWrong; i++) {
            if (flip()) {
                call("gap", between(0, rarely() ? 100 : 9), between(0, rarely() ? 1000 : 9));
                call("nextGap");
            }
            if (random.nextInt(3) == 0) {
                call("mend", anyLong());
            }
            if (i < 12) {
                call("oldWall");
            }
            if (flip()) {
                call("meet", between(0, 8), between(0, 7), random.nextInt(3) == 0);
            }
            for (int wall = 0; wall < 9; wall++) {
                call("phase", wall);
            }
            call("checksum");
        }
    }
}
