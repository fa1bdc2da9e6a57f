import java.io.IOException;
import java.lang.reflect.Field;
import java.lang.reflect.Modifier;
import java.nio.file.Files;
import java.nio.file.Path;
import java.util.ArrayList;
import java.util.List;
import java.util.Map;
import java.util.Set;
import java.util.TreeSet;
import java.util.regex.Matcher;
import java.util.regex.Pattern;

/**
 * The rules of LANGUAGE.md that can be seen in the text of the class; the face (rule 1) is FaceTest's. Where
 * the class needs less than the rules allow (no try, no lists, no objects made in calls), the test allows less.
 */
public final class LanguageTest {
    private static final Set<String> LIBRARY = Set.of(
            "String", "Math", "System", "Arrays", "IllegalStateException", "IllegalArgumentException",
            "IndexOutOfBoundsException", "ArithmeticException", "UnsupportedOperationException",
            "NoSuchElementException");
    private static final Set<String> STATICS = Set.of(
            "Math.min", "Math.max", "Math.abs", "System.arraycopy", "Arrays.fill", "Arrays.copyOf",
            "Arrays.copyOfRange");
    private static final Set<String> FIELD_TYPES = Set.of("int", "long", "boolean", "char", "String", "int[]");
    private static final String[] BANNED = {
        "->", "::", "\\btry\\b", "\\bcatch\\b", "\\bfinally\\b", "\\bsynchronized\\b", "\\bassert\\b",
        "\\bnative\\b", "\\bvolatile\\b", "\\bvar\\b", "\\bObject\\b", "\\bequals\\b", "\\bhashCode\\b",
        "\\btoString\\b", "\\bstatic \\{", "while \\(true\\)", "for \\(\\w* *;;", "^package\\b",
    };
    private static final Map<String, String> OWNERS = Map.of(
            "log", "Log", "list", "MoveList", "table", "Table", "house", "House", "anew", "House",
            "claim", "Claim", "board", "Board", "after", "Board", "told", "Game", "game", "Game");
    private static final int MOST_CLASSES = 12;
    private static final int MOST_FIELDS = 20;
    private static final int MOST_PARAMETERS = 7;
    private static final int MOST_LINES = 60;
    private static final int MOST_CALLS_DEEP = 8;

    private static final Check CHECK = new Check();

    /** A method or constructor of the class or of one inside it. */
    private record Method(String owner, String name, int parameters, String body, boolean open) {
        boolean isConstructor() {
            return name.equals(owner);
        }
    }

    public static void main(String[] args) throws IOException {
        String source = Files.readString(Path.of("src/main/java/CheckerLog.java"));
        String text = source.replaceAll("(?s)/\\*.*?\\*/", "").replaceAll("//[^\n]*", "");
        List<Method> methods = methodsOf(text);
        CHECK.due("the methods are found", true, () -> methods.size() > 100);
        signs(source, text);
        library(text.replaceAll("\"[^\"]*\"", "\"\""));
        exceptions(text, methods);
        fields();
        sizes(methods);
        noObjectsInCalls(methods);
        callsDeep(methods);
        CHECK.end("LanguageTest");
    }

    private static List<Method> methodsOf(String text) {
        Pattern head = Pattern.compile(
                "\n(?:    |        )(?<way>public |private |static )*(?<type>[\\w\\[\\]]+ )?(?<name>\\w+)"
                + "\\((?<list>[^)]*)\\)\\s*(?:throws [\\w,\\s]+)?\\{");
        Pattern inside = Pattern.compile("\n    private static final class (\\w+) \\{");
        List<Method> methods = new ArrayList<>();
        Matcher found = head.matcher(text);
        while (found.find()) {
            String owner = "CheckerLog";
            Matcher ahead = inside.matcher(text.substring(0, found.start()));
            while (ahead.find()) {
                owner = ahead.group(1);
            }
            String list = found.group("list");
            methods.add(new Method(owner, found.group("name"), list.isBlank() ? 0 : list.split(",").length,
                    text.substring(found.end(), endOf(text, found.end())),
                    found.group().contains("    public ")));
        }
        return methods;
    }

    private static int endOf(String text, int begin) {
        int open = 1;
        int at = begin;
        while (open > 0 && at < text.length()) {
            open += text.charAt(at) == '{' ? 1 : text.charAt(at) == '}' ? -1 : 0;
            at++;
        }
        return at;
    }

    /** Rules 2, 4, 6, 9 and 10: what may not be written at all. */
    private static void signs(String source, String text) {
        CHECK.due("signs from 1 to 127", true, () -> source.chars().allMatch(sign -> sign >= 1 && sign <= 127));
        String bare = text.replaceAll("\"[^\"]*\"", "\"\"");
        for (String banned : BANNED) {
            Matcher found = Pattern.compile(banned, Pattern.MULTILINE).matcher(bare);
            CHECK.due("none of " + banned, false, found::find);
        }
        CHECK.due("no texts joined by +", false, () -> Pattern.compile("\"\\s*\\+|\\+\\s*\"").matcher(bare).find());
    }

    /** Rule 4: no class but one's own and the ones that are listed, no function of theirs but the listed ones. */
    private static void library(String bare) {
        Set<String> allowed = new TreeSet<>(LIBRARY);
        allowed.add("CheckerLog");
        for (Class<?> inside : CheckerLog.class.getDeclaredClasses()) {
            allowed.add(inside.getSimpleName());
        }
        Matcher types = Pattern.compile("(?<![\\w.])[A-Z]\\w*[a-z]\\w*").matcher(bare.replaceAll("import [^;]*;", ""));
        while (types.find()) {
            String type = types.group();
            CHECK.due(type + " may be used", true, () -> allowed.contains(type));
        }
        Matcher calls = Pattern.compile("\\b(?:Math|System|Arrays)\\.\\w+").matcher(bare);
        while (calls.find()) {
            String call = calls.group();
            CHECK.due(call + " may be used", true, () -> STATICS.contains(call));
        }
        Matcher imports = Pattern.compile("import ([^;]*);").matcher(bare);
        while (imports.find()) {
            String name = imports.group(1);
            CHECK.due(name + " may be used", true, () -> name.startsWith("java.util.")
                    && LIBRARY.contains(name.substring("java.util.".length())));
        }
    }

    /** Rule 6: "throw new E("a written text")", and none in a constructor. */
    private static void exceptions(String text, List<Method> methods) {
        Matcher thrown = Pattern.compile("\\bthrow\\b[^;]*;").matcher(text);
        while (thrown.find()) {
            String statement = thrown.group();
            Matcher parts = Pattern.compile("throw new (\\w+)\\(\"[^\"]*\"\\);").matcher(statement);
            CHECK.due(statement, true, () -> parts.matches() && LIBRARY.contains(parts.group(1)));
        }
        for (Method method : methods) {
            if (method.isConstructor()) {
                CHECK.due("no throw in new " + method.name(), false, () -> method.body().contains("throw"));
            }
        }
    }

    /** Rules 5 and 11: static fields are constants, and a class has some twenty others. */
    private static void fields() {
        List<Class<?>> classes = new ArrayList<>(List.of(CheckerLog.class.getDeclaredClasses()));
        classes.add(CheckerLog.class);
        CHECK.due("some twelve classes", true, () -> classes.size() <= MOST_CLASSES);
        for (Class<?> each : classes) {
            int own = 0;
            for (Field field : each.getDeclaredFields()) {
                boolean isStatic = Modifier.isStatic(field.getModifiers());
                own += isStatic ? 0 : 1;
                if (isStatic) {
                    String label = each.getSimpleName() + "." + field.getName();
                    CHECK.due(label + " is final", true, () -> Modifier.isFinal(field.getModifiers()));
                    CHECK.due(label + " has a type for it", true,
                            () -> FIELD_TYPES.contains(field.getType().getSimpleName()));
                }
            }
            int count = own;
            CHECK.due("some twenty fields in " + each.getSimpleName(), true, () -> count <= MOST_FIELDS);
        }
    }

    /** Rule 11: seven parameters, some sixty lines. */
    private static void sizes(List<Method> methods) {
        for (Method method : methods) {
            String label = method.owner() + "." + method.name();
            CHECK.due("parameters of " + label, true, () -> method.parameters() <= MOST_PARAMETERS);
            CHECK.due("lines of " + label, true, () -> method.body().lines().count() <= MOST_LINES);
        }
    }

    /** Rule 12: objects are made in constructors alone, but for exceptions. */
    private static void noObjectsInCalls(List<Method> methods) {
        for (Method method : methods) {
            boolean makes = Pattern.compile("(?<!throw )\\bnew\\b").matcher(method.body()).find();
            String label = method.owner() + "." + method.name();
            CHECK.due("objects made in " + label, false, () -> makes && !method.isConstructor());
        }
    }

    /** Rule 11: calls that are no recursion go at most eight deep. */
    private static void callsDeep(List<Method> methods) {
        for (Method method : methods) {
            if (method.open() && !method.isConstructor()) {
                int depth = depthOf(method, methods, new ArrayList<>());
                CHECK.due("calls below " + method.name() + ", " + depth, true, () -> depth <= MOST_CALLS_DEEP);
            }
        }
    }

    private static int depthOf(Method method, List<Method> methods, List<Method> above) {
        above.add(method);
        int below = 0;
        Matcher calls = Pattern.compile("(?<!new )\\b(?:(?<whose>\\w+)\\.)?\\b(?<name>\\w+)\\(").matcher(method.body());
        while (calls.find()) {
            Method called = calledBy(method, calls.group("whose"), calls.group("name"), methods);
            if (called != null && !above.contains(called)) {
                below = Math.max(below, depthOf(called, methods, above));
            }
        }
        above.remove(above.size() - 1);
        return below + 1;
    }

    /** The class keeps to the same names for what it calls: a name tells a class, 'other' the caller's own. */
    private static Method calledBy(Method caller, String whose, String name, List<Method> methods) {
        boolean sameClass = whose == null || whose.equals("other");
        String owner = sameClass ? caller.owner() : OWNERS.getOrDefault(whose, whose);
        Method called = null;
        boolean known = STATICS.contains(owner + "." + name) || List.of("if", "for", "while").contains(name);
        for (Method method : methods) {
            if (method.owner().equals(owner) && method.name().equals(name)) {
                called = method;
            }
        }
        if (called == null && !known) {
            CHECK.due(whose + "." + name + " called in " + caller.name(), "a method", () -> "not found");
        }
        return called;
    }
}
