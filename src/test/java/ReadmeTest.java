import java.io.IOException;
import java.lang.reflect.InvocationTargetException;
import java.nio.file.Files;
import java.nio.file.Path;
import java.util.Arrays;
import java.util.HashMap;
import java.util.Map;
import java.util.regex.Matcher;
import java.util.regex.Pattern;

/** README.md's examples, read from the page and made on one house: each call answers what stands behind it. */
public final class ReadmeTest {
    private static final Pattern LINE =
            Pattern.compile("(?:int (\\w+) = )?house\\.(\\w+)\\(([^)]*)\\); +// ([^:]+)(?::.*)?");
    private static final String NEW_HOUSE = "CheckerLog house = new CheckerLog();";
    private static final int LEAST_CALLS = 60;

    private static final Check CHECK = new Check();

    private final CheckerLog house = new CheckerLog();
    private final Map<String, Integer> names = new HashMap<>();
    private int calls = 0;
    private int houses = 0;

    public static void main(String[] args) throws IOException {
        ReadmeTest test = new ReadmeTest();
        boolean inside = false;
        for (String line : Files.readAllLines(Path.of("README.md"))) {
            if (line.startsWith("```")) {
                inside = line.equals("```java");
            } else if (inside) {
                test.runLine(line);
            }
        }
        CHECK.due("one house", 1, () -> test.houses);
        CHECK.due("the examples are found", true, () -> test.calls >= LEAST_CALLS);
        CHECK.end("ReadmeTest");
    }

    private void runLine(String line) {
        Matcher parts = LINE.matcher(line);
        if (parts.matches()) {
            String answer = Check.answerOf(() -> call(parts.group(2), parts.group(3)));
            CHECK.due(line, parts.group(4).replace("throws ", "throws."), () -> answer);
            if (parts.group(1) != null) {
                names.put(parts.group(1), Integer.parseInt(answer));
            }
            calls++;
        } else {
            CHECK.due("a line of the examples", NEW_HOUSE, () -> line);
            houses++;
        }
    }

    private Object call(String name, String list) {
        String[] words = list.isEmpty() ? new String[0] : list.split(", ");
        Object[] values = new Object[words.length];
        for (int i = 0; i < words.length; i++) {
            values[i] = names.containsKey(words[i]) ? names.get(words[i]) : Integer.valueOf(words[i]);
        }
        Class<?>[] types = new Class<?>[words.length];
        Arrays.fill(types, int.class);
        try {
            return CheckerLog.class.getMethod(name, types).invoke(house, values);
        } catch (InvocationTargetException e) {
            throw (RuntimeException) e.getCause();
        } catch (ReflectiveOperationException e) {
            return "no such call";
        }
    }
}
