import java.lang.reflect.InvocationTargetException;
import java.lang.reflect.Method;
import java.lang.reflect.Modifier;
import java.util.ArrayList;
import java.util.Arrays;
import java.util.HashMap;
import java.util.List;
import java.util.Map;
import java.util.Objects;
import java.util.TreeSet;

/**
 * A run of calls on a new yard, each told by its name. A refused call is tried on a twin of the yard too, and then
 * the twin must answer all that can be asked as one does that the call was never made on.
 */
final class Run {
    static final String ARGUMENT = "throws.IllegalArgumentException";
    static final String STATE = "throws.IllegalStateException";
    static final String BOUNDS = "throws.IndexOutOfBoundsException";
    static final String UNSUPPORTED = "throws.UnsupportedOperationException";
    static final String ELEMENT = "throws.NoSuchElementException";
    static final String ARITHMETIC = "throws.ArithmeticException";

    private static final int MOST_CALLS = 512;
    private static final Map<String, Method> FACE = face();

    private final Checks checks;
    private final String title;
    private final Copestone yard = new Copestone();
    private final List<Object[]> told = new ArrayList<>();
    private int calls;
    /** What the probe answers to as the yard is now; null as long as it was not asked. */
    private List<String> asItIs;

    Run(Checks checks, String title) {
        this.checks = checks;
        this.title = title;
    }

    private static Map<String, Method> face() {
        Map<String, Method> face = new HashMap<>();
        for (Method method : Copestone.class.getDeclaredMethods()) {
            if (Modifier.isPublic(method.getModifiers())) {
                face.put(method.getName(), method);
            }
        }
        return face;
    }

    /** The names of all calls, in their order. */
    static List<String> names() {
        return new ArrayList<>(new TreeSet<>(FACE.keySet()));
    }

    /** The types that a call is told, none if there is no such call. */
    static Class<?>[] typesOf(String name) {
        return FACE.containsKey(name) ? FACE.get(name).getParameterTypes() : new Class<?>[0];
    }

    /** The answer of a call, whole numbers as long ones; the exception's name behind "throws." if it throws. */
    static Object answerOf(Copestone on, String name, Object... args) {
        try {
            Object answer = FACE.get(name).invoke(on, args);
            return answer instanceof Integer ? (Object) (long) (Integer) answer : answer;
        } catch (InvocationTargetException e) {
            return "throws." + e.getCause().getClass().getSimpleName();
        } catch (IllegalAccessException e) {
            throw new IllegalStateException(e);
        }
    }

    static String written(String name, Object... args) {
        String list = Arrays.toString(args);
        return name + "(" + list.substring(1, list.length() - 1) + ")";
    }

    private Object call(String name, Object... args) {
        calls++;
        checks.due(title + ": calls on one yard, at most 512", calls <= MOST_CALLS, true);
        return answerOf(yard, name, args);
    }

    private void keep(String name, Object... args) {
        told.add(new Object[] {name, args});
        asItIs = null;
    }

    /** A call that must be done, whatever it answers. */
    Object does(String name, Object... args) {
        Object answer = call(name, args);
        checks.due(title + ": " + written(name, args) + " is refused", answer instanceof String ? answer : "", "");
        keep(name, args);
        return answer;
    }

    /** A call that must answer that. */
    Run is(Object want, String name, Object... args) {
        Object due = want instanceof Integer ? (Object) (long) (Integer) want : want;
        checks.due(title + ": " + written(name, args), call(name, args), due);
        keep(name, args);
        return this;
    }

    /** A call that must throw that, and change nothing. */
    Run refuses(String exception, String name, Object... args) {
        String what = title + ": " + written(name, args);
        checks.due(what, call(name, args), exception);
        if (asItIs == null) {
            asItIs = Probe.ask(this::again);
        }
        List<String> behind = Probe.ask(() -> {
            Copestone twin = again();
            answerOf(twin, name, args);
            return twin;
        });
        checks.due(what + ", then", firstChange(asItIs, behind), "");
        return this;
    }

    /** A new yard on which all calls that were done are done again. */
    private Copestone again() {
        Copestone twin = new Copestone();
        for (Object[] one : told) {
            answerOf(twin, (String) one[0], (Object[]) one[1]);
        }
        return twin;
    }

    private static String firstChange(List<String> before, List<String> behind) {
        for (int i = 0; i < Math.min(before.size(), behind.size()); i++) {
            if (!Objects.equals(before.get(i), behind.get(i))) {
                return before.get(i) + " became " + behind.get(i);
            }
        }
        return before.size() == behind.size() ? "" : "more or less is asked";
    }

    // ---- what many runs need

    /** A stone in the hand; answers its number. */
    int hold(int l, int h, int t) {
        int stone = ((Long) does("stone", l, h, t)).intValue();
        does("lift", stone);
        return stone;
    }

    int lay(int l, int h, int t, int course, boolean isFront, int place) {
        int stone = hold(l, h, t);
        does("lay", course, isFront, place);
        return stone;
    }

    int cope(int l, int h, int t) {
        int stone = hold(l, h, t);
        does("cope");
        return stone;
    }

    int pack(int l, int h, int t, int course) {
        int stone = hold(l, h, t);
        does("pack", course);
        return stone;
    }

    void stones(int many, int l, int h, int t) {
        for (int i = 0; i < many; i++) {
            does("stone", l, h, t);
        }
    }
}
