import java.util.Objects;

/** Counts the answers of one test that are not as due, and prints each. */
final class Checks {
    interface Call {
        Object answer();
    }

    private int done;
    private int wrong;

    void due(String what, Object got, Object want) {
        done++;
        if (!Objects.equals(got, want)) {
            wrong++;
            System.out.println(what + " answered " + got + ", due is " + want);
        }
    }

    /** The call must throw exactly that exception, and what can be seen of the yard must be as before. */
    void dueThrows(String what, Copestone yard, Class<? extends RuntimeException> want, Call call) {
        String before = Snapshot.of(yard);
        due(what, thrownBy(call), want.getSimpleName());
        due(what + ", the yard behind it", firstChange(before, Snapshot.of(yard)), "");
    }

    private static String firstChange(String before, String behind) {
        String[] old = before.split("\n");
        String[] now = behind.split("\n");
        for (int i = 0; i < Math.min(old.length, now.length); i++) {
            if (!old[i].equals(now[i])) {
                return old[i] + " became " + now[i];
            }
        }
        return before.equals(behind) ? "" : "something";
    }

    private static Object thrownBy(Call call) {
        try {
            return "the answer " + call.answer();
        } catch (RuntimeException thrown) {
            return thrown.getClass().getSimpleName();
        }
    }

    /** To be called last: ends the test, with 1 if an answer was wrong. */
    void end() {
        System.out.println(done - wrong + " answers are as due, " + wrong + " are not");
        System.exit(wrong == 0 && done > 0 ? 0 : 1);
    }
}
