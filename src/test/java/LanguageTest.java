import java.io.IOException;
import java.lang.reflect.Field;
import java.lang.reflect.Modifier;
import java.nio.file.Files;
import java.nio.file.Path;
import java.util.ArrayList;
import java.util.HashSet;
import java.util.List;
import java.util.Map;
import java.util.Set;
import java.util.TreeMap;
import java.util.TreeSet;
import java.util.regex.Matcher;
import java.util.regex.Pattern;
import java.util.stream.Stream;

/** The rules of LANGUAGE.md that can be seen in the text of the class, each under its number. */
final class LanguageTest {
    private static final Path FOLDER = Path.of("src/main/java");
    private static final int MOST_LINES = 60;
    private static final int MOST_PARAMETERS = 7;
    private static final int MOST_CLASSES = 12;
    private static final int MOST_FIELDS = 20;
    private static final int MOST_CALLS_DEEP = 8;
    private static final Pattern METHOD = Pattern.compile("(?:[\\w\\[\\]]+ )+(\\w+)\\(([^()]*)\\) \\{");

    private final Check check = new Check();
    private final String code;

    private LanguageTest(String source) {
        code = source.replaceAll("(?s)/\\*.*?\\*/", "").replaceAll("//[^\n]*", "").replaceAll("'\\\\?.'", "0");
    }

    public static void main(String[] args) throws IOException {
        List<Path> files = new ArrayList<>();
        try (Stream<Path> found = Files.walk(FOLDER)) {
            found.filter(Files::isRegularFile).forEach(files::add);
        }
        LanguageTest test = new LanguageTest(Files.readString(FOLDER.resolve("GoalScanner.java")));
        test.check.due("the files of the program", files.toString(), "[src/main/java/GoalScanner.java]");
        test.words();
        test.library();
        test.fields();
        test.methods();
        test.callDepth();
        test.fieldTypes();
        test.check.end();
    }

    private void absent(String rule, String pattern) {
        Matcher matcher = Pattern.compile(pattern).matcher(code);
        check.due("rule " + rule, matcher.find() ? "has " + matcher.group() : "nothing", "nothing");
    }

    private void words() {
        absent("0, no package", "\\bpackage\\b");
        absent("2, no lambda or method reference", "->|::");
        absent("2, no anonymous class", "new \\w+\\([^()]*\\) \\{");
        absent("4, no import", "\\bimport\\b");
        absent("5, no static initialiser", "static \\{");
        absent("6, no such word", "\\b(throws?|try|catch|finally|synchronized|assert)\\b");
        absent("6, no equals, hashCode or toString", "\\b(equals|hashCode|toString)\\b");
        absent("10, no joining of texts by +", "\"");
        absent("13, no thread or native code", "\\b(volatile|native|Thread|Runtime)\\b");
    }

    private void library() {
        Matcher used = Pattern.compile("\\b([A-Z]\\w*[a-z]\\w*)\\.(\\w+)").matcher(code);
        while (used.find()) {
            String call = used.group();
            boolean own = Pattern.compile("class " + used.group(1) + "\\b").matcher(code).find();
            boolean listed = call.equals("System.arraycopy") || call.matches("(Math|Integer|Long)\\.\\w+");
            check.due("rule 4, " + call + " is listed", own || listed && !call.endsWith("Exact"), true);
        }
    }

    private void fields() {
        Matcher field = Pattern.compile("\n *((?:\\w+ )*)static ((?:\\w+(?:\\[\\])? )+)\\w+ =").matcher(code);
        while (field.find()) {
            check.due("rule 5, " + field.group().trim() + " is final", field.group(2).startsWith("final "), true);
        }
        Matcher inside = Pattern.compile("\\bclass \\w+").matcher(code);
        int classes = 0;
        while (inside.find()) {
            classes++;
        }
        check.due("rule 11, so many classes", classes <= MOST_CLASSES, true);
    }

    private void methods() {
        Matcher method = METHOD.matcher(code);
        int found = 0;
        while (method.find()) {
            found++;
            int parameters = method.group(2).isEmpty() ? 0 : method.group(2).split(",").length;
            check.due("rule 11, few parameters of " + method.group(1), parameters <= MOST_PARAMETERS, true);
            long lines = body(method.end()).lines().count();
            check.due("rule 11, few lines of " + method.group(1), lines <= MOST_LINES, true);
        }
        check.due("the methods were found", found > 20, true);
    }

    /** Each method's longest way down through others, the library's too; one that is open already is recursion. */
    private void callDepth() {
        Map<String, Set<String>> calls = new TreeMap<>();
        Matcher method = METHOD.matcher(code);
        while (method.find()) {
            Set<String> called = calls.computeIfAbsent(method.group(1), name -> new TreeSet<>());
            Matcher call = Pattern.compile("\\b([a-z]\\w*)\\(").matcher(body(method.end()));
            while (call.find()) {
                called.add(call.group(1));
            }
        }
        for (String name : calls.keySet()) {
            int deep = deepest(name, calls, new HashSet<>());
            check.due("rule 11, " + name + " with its " + deep + " calls one in the other is not too deep",
                deep <= MOST_CALLS_DEEP, true);
        }
    }

    private static int deepest(String name, Map<String, Set<String>> calls, Set<String> open) {
        int below = 0;
        open.add(name);
        for (String called : calls.getOrDefault(name, Set.of())) {
            if (!open.contains(called)) {
                below = Math.max(below, deepest(called, calls, open));
            }
        }
        open.remove(name);
        return 1 + below;
    }

    private void fieldTypes() {
        List<Class<?>> classes = new ArrayList<>(List.of(GoalScanner.class.getDeclaredClasses()));
        classes.add(GoalScanner.class);
        for (Class<?> each : classes) {
            int held = 0;
            for (Field field : each.getDeclaredFields()) {
                Class<?> type = field.getType();
                boolean plain = List.of(int.class, long.class, boolean.class, int[].class).contains(type);
                boolean own = classes.contains(type.isArray() ? type.getComponentType() : type);
                boolean isStatic = Modifier.isStatic(field.getModifiers());
                held += isStatic ? 0 : 1;
                check.due("rules 3 and 5, the type of " + field + " is fit", plain || own && !isStatic, true);
            }
            check.due("rule 11, few fields of " + each, held <= MOST_FIELDS, true);
        }
    }

    /** The text from behind an opening brace up to the one that closes it. */
    private String body(int from) {
        int open = 1;
        int end = from;
        while (open > 0) {
            open += code.charAt(end) == '{' ? 1 : code.charAt(end) == '}' ? -1 : 0;
            end++;
        }
        return code.substring(from, end);
    }
}
