import java.io.IOException;
import java.nio.file.Files;
import java.nio.file.Path;
import java.util.ArrayList;
import java.util.HashSet;
import java.util.List;
import java.util.Set;
import java.util.regex.Matcher;
import java.util.regex.Pattern;

/** The calls that README.md shows answer what it tells, and each call of the face is shown. */
public final class ReadmeTest {
    private static final Pattern BLOCK = Pattern.compile("(?s)```java\n(.*?)```");
    private static final Pattern LINE = Pattern.compile("yard\\.(\\w+)\\(([^()]*)\\); +// (throws \\w+|'.'|[\\w.-]+)(?:: .*)?");
    private static final String NEW_YARD = "Copestone yard = new Copestone();";

    private final Checks checks = new Checks();
    private final Set<String> shown = new HashSet<>();

    public static void main(String[] args) throws IOException {
        ReadmeTest test = new ReadmeTest();
        test.all(Files.readString(Path.of(args.length > 0 ? args[0] : "README.md")));
        test.checks.end();
    }

    private void all(String readme) {
        int blocks = 0;
        Matcher block = BLOCK.matcher(readme);
        while (block.find()) {
            blocks++;
            run(block.group(1).split("\n"));
        }
        checks.due("README.md shows calls", blocks > 0, true);
        checks.due("the calls of the face that README.md does not show", notShown(), List.of());
        checks.due("README.md says how to run the tests", readme.contains("bash .ci/run"), true);
    }

    private void run(String[] lines) {
        checks.due("README.md, the first line of a block", lines[0], NEW_YARD);
        Copestone yard = new Copestone();
        for (int i = 1; i < lines.length; i++) {
            Matcher line = LINE.matcher(lines[i]);
            boolean isCall = line.matches() && Run.names().contains(line.group(1));
            checks.due("README.md, a call with its answer: " + lines[i], isCall, true);
            if (isCall) {
                shown.add(line.group(1));
                String told = line.group(3).replace("throws ", "throws.");
                checks.due("README.md: " + lines[i], answerOf(yard, line.group(1), line.group(2)), told);
            }
        }
    }

    private static String answerOf(Copestone yard, String name, String list) {
        Class<?>[] types = Run.typesOf(name);
        String[] words = list.isEmpty() ? new String[0] : list.split(", ");
        if (words.length != types.length) {
            return "no call with " + words.length + " arguments";
        }
        Object[] args = new Object[words.length];
        for (int i = 0; i < words.length; i++) {
            args[i] = argument(words[i], types[i]);
            if (args[i] == null) {
                return words[i] + " is no " + types[i];
            }
        }
        Object answer = Run.answerOf(yard, name, args);
        return answer instanceof Character ? "'" + answer + "'" : answer.toString();
    }

    /** An argument as it is written in Java, null if it is not of that type. */
    private static Object argument(String word, Class<?> type) {
        if (type == int.class && word.matches("-?\\d+")) {
            return Integer.valueOf(word);
        }
        if (type == long.class && word.matches("-?\\d+L")) {
            return Long.valueOf(word.substring(0, word.length() - 1));
        }
        if (type == char.class && word.matches("'.'")) {
            return word.charAt(1);
        }
        boolean isBoolean = type == boolean.class && word.matches("true|false");
        return isBoolean ? (Object) word.equals("true") : null;
    }

    private List<String> notShown() {
        List<String> left = new ArrayList<>(Run.names());
        left.removeAll(shown);
        return left;
    }
}
