import java.io.IOException;
import java.lang.reflect.Field;
import java.lang.reflect.Method;
import java.lang.reflect.Modifier;
import java.nio.file.Files;
import java.nio.file.Path;
import java.util.ArrayDeque;
import java.util.ArrayList;
import java.util.Arrays;
import java.util.Deque;
import java.util.HashSet;
import java.util.List;
import java.util.Set;
import java.util.TreeSet;
import java.util.regex.Matcher;
import java.util.regex.Pattern;

/** The face of the class is the document's, and the rules of LANGUAGE.md that can be seen from outside hold. */
public final class FaceTest {
    private final Checks checks = new Checks();

    public static void main(String[] args) throws IOException {
        Path shared = Path.of(args.length > 0 ? args[0] : "../shared");
        Path main = Path.of(args.length > 1 ? args[1] : "src/main/java/Copestone.java");
        FaceTest test = new FaceTest();
        test.faceIsTheDocuments(Files.readString(shared.resolve("DOC.md")));
        test.membersAreHidden();
        test.namesAreNotTaken();
        test.classesAreSmall();
        test.sourceKeepsTo(Files.readString(main));
        test.recursionIsStatic(Files.readString(main));
        test.checks.end();
    }

    private void faceIsTheDocuments(String document) {
        String block = document.substring(document.indexOf("```java"));
        block = block.substring(0, block.indexOf("```", 7));
        Set<String> want = new TreeSet<>();
        Matcher told = Pattern.compile("public (\\w+) (\\w+)\\(([^)]*)\\)(?: throws ([^;]*))?;").matcher(block);
        while (told.find()) {
            StringBuilder types = new StringBuilder();
            for (String parameter : told.group(3).isEmpty() ? new String[0] : told.group(3).split(", ")) {
                types.append(parameter, 0, parameter.indexOf(' ')).append(',');
            }
            String thrown = told.group(4) == null ? "" : told.group(4).replace(" ", "");
            want.add(told.group(1) + " " + told.group(2) + "(" + types + ")" + thrown);
        }
        Set<String> got = new TreeSet<>();
        for (Method method : Copestone.class.getDeclaredMethods()) {
            if (Modifier.isPublic(method.getModifiers())) {
                StringBuilder types = new StringBuilder();
                for (Class<?> type : method.getParameterTypes()) {
                    types.append(type.getSimpleName()).append(',');
                }
                List<String> thrown = new ArrayList<>();
                for (Class<?> type : method.getExceptionTypes()) {
                    thrown.add(type.getSimpleName());
                }
                got.add(method.getReturnType().getSimpleName() + " " + method.getName() + "(" + types + ")"
                        + String.join(",", thrown));
            }
        }
        checks.due("the number of methods", want.size(), 50);
        checks.due("the face", got, want);
        checks.due("its constructors", Copestone.class.getDeclaredConstructors().length, 1);
        checks.due("public and final", Copestone.class.getModifiers(), Modifier.PUBLIC | Modifier.FINAL);
    }

    private void membersAreHidden() {
        for (Method method : Copestone.class.getDeclaredMethods()) {
            int modifiers = method.getModifiers();
            checks.due(method + " is public or private", Modifier.isPublic(modifiers) || Modifier.isPrivate(modifiers), true);
            checks.due(method + " is no static one of the face", Modifier.isPublic(modifiers) && Modifier.isStatic(modifiers),
                    false);
        }
        for (Field field : Copestone.class.getDeclaredFields()) {
            checks.due(field + " is private", Modifier.isPrivate(field.getModifiers()), true);
        }
        for (Class<?> inside : Copestone.class.getDeclaredClasses()) {
            int modifiers = inside.getModifiers();
            checks.due(inside + " is hidden", Modifier.isPublic(modifiers) || Modifier.isProtected(modifiers), false);
            checks.due(inside + " is static", Modifier.isStatic(modifiers), true);
        }
    }

    private static List<Class<?>> classes() {
        List<Class<?>> classes = new ArrayList<>(Arrays.asList(Copestone.class.getDeclaredClasses()));
        classes.add(Copestone.class);
        return classes;
    }

    private void namesAreNotTaken() {
        Set<String> face = new HashSet<>();
        for (Method method : Copestone.class.getDeclaredMethods()) {
            if (Modifier.isPublic(method.getModifiers())) {
                face.add(method.getName());
            }
        }
        for (Class<?> one : classes()) {
            for (Method method : one.getDeclaredMethods()) {
                boolean isOfFace = one == Copestone.class && Modifier.isPublic(method.getModifiers());
                checks.due(method + " bears its own name", isOfFace || !face.contains(method.getName()), true);
                checks.due(method + " has few parameters", method.getParameterCount() <= 7, true);
            }
        }
    }

    private void classesAreSmall() {
        checks.due("at most 12 classes", classes().size() <= 12, true);
        for (Class<?> one : classes()) {
            int fields = 0;
            for (Field field : one.getDeclaredFields()) {
                boolean isStatic = Modifier.isStatic(field.getModifiers());
                fields += isStatic ? 0 : 1;
                checks.due(field + " is final if static", !isStatic || Modifier.isFinal(field.getModifiers()), true);
            }
            checks.due(one + " has few fields", fields <= 20, true);
        }
    }

    /** Words that the rules leave out, the lengths of methods, and that signs are 1 to 127. */
    private void sourceKeepsTo(String source) {
        String bare = source.replaceAll("(?s)/\\*.*?\\*/", "").replaceAll("//[^\n]*", "").replaceAll("\"[^\"\n]*\"", "\"\"");
        String[] words = {"catch", "try", "finally", "assert", "synchronized", "switch", "instanceof", "Object", "equals",
            "hashCode", "toString", "System", "Thread", "Random", "volatile", "protected", "float[]", "Exact", "->", "::",
            "package", "Integer", "Long", "var", "goto", "record", "yield"};
        for (String word : words) {
            String pattern = Character.isLetter(word.charAt(0)) && word.matches("\\w+")
                    ? "\\b" + word + "\\b" : Pattern.quote(word);
            checks.due("uses of " + word, Pattern.compile(pattern).matcher(bare).find(), false);
        }
        checks.due("signs are 1 to 127", source.chars().allMatch(sign -> sign >= 1 && sign <= 127), true);
        Matcher imports = Pattern.compile("import ([^;]*);").matcher(bare);
        while (imports.find()) {
            checks.due("import " + imports.group(1), Set.of("java.util.Arrays", "java.util.NoSuchElementException")
                    .contains(imports.group(1)), true);
        }
        Deque<Integer> open = new ArrayDeque<>();
        int line = 1;
        for (char sign : bare.toCharArray()) {
            line += sign == '\n' ? 1 : 0;
            if (sign == '{') {
                open.push(line);
            } else if (sign == '}') {
                int begin = open.pop();
                boolean isClass = open.isEmpty() || bare.split("\n", -1)[begin - 1].contains(" class ");
                checks.due("lines from " + begin, isClass || line - begin <= 60, true);
            }
        }
    }

    /** A method that calls itself, by its bare name, is private and static, and carries its depth. */
    private void recursionIsStatic(String source) {
        Matcher method = Pattern.compile("(?ms)^( +)([\\w\\[\\] ]*?)\\b(\\w+)\\(([^)]*)\\)[^;{}]*\\{\\n(.*?)^\\1\\}").matcher(source);
        int methods = 0;
        int recursions = 0;
        for (int from = 0; method.find(from); from = method.start(5)) {
            boolean isMethod = !method.group(2).isBlank() && !method.group(2).contains("else") && !method.group(2).contains("new");
            methods += isMethod ? 1 : 0;
            if (isMethod && Pattern.compile("(?<![.\\w])" + method.group(3) + "\\(").matcher(method.group(5)).find()) {
                recursions++;
                checks.due(method.group(3) + " calls itself, so it is", method.group(2).contains("private static "), true);
                checks.due(method.group(3) + " calls itself, with its depth", method.group(4).contains("int depth"), true);
            }
        }
        checks.due("methods were read", methods > 150, true);
        checks.due("methods that call themselves", recursions, 1);
    }
}
