import java.io.IOException;
import java.lang.reflect.Method;
import java.nio.file.Files;
import java.nio.file.Path;
import java.util.HashMap;
import java.util.Map;
import java.util.TreeSet;
import java.util.regex.Matcher;
import java.util.regex.Pattern;

/**
 * The examples of README.md, one call a line with its answer behind it, on one object: "x.value(sum); // 11: why",
 * "x.put(sum, 1L); // throws IllegalArgumentException: why".
 */
public final class ReadmeTest {
    private static final Pattern BLOCK = Pattern.compile("(?s)```java\\n(.*?)```");
    private static final Pattern LINE = Pattern.compile("(?:int (\\w+) = )?x\\.(\\w+)\\((.*)\\); *(?:// *(.*))?");
    private static final Pattern ANSWER = Pattern.compile("(throws \\w+|-?\\d+|true|false)(:.*)?");

    private final KeyStates x = new KeyStates();
    private final Map<String, Long> variables = new HashMap<>();
    private final TreeSet<String> called = new TreeSet<>();
    private int wrong = 0;

    public static void main(String[] args) throws IOException {
        ReadmeTest test = new ReadmeTest();
        Matcher block = BLOCK.matcher(Files.readString(Path.of("README.md")));
        while (block.find()) {
            block.group(1).lines().forEach(test::check);
        }
        test.requireAllCalled();
        System.out.println(test.wrong == 0 ? "the examples answer as README.md says" : test.wrong + " things are not as due");
        if (test.wrong != 0) {
            System.exit(1);
        }
    }

    private void check(String line) {
        if (line.isBlank() || line.equals("KeyStates x = new KeyStates();")) {
            return;
        }
        Matcher parts = LINE.matcher(line);
        if (!parts.matches()) {
            tell("not read: " + line);
            return;
        }
        String name = parts.group(2);
        called.add(name);
        String got = Calls.answer(x, name, arguments(parts.group(3)));
        String due = got.equals("nothing") ? "nothing" : dueAnswer(parts.group(4));
        if (!got.equals(due)) {
            tell(line.trim() + " answered " + got);
        } else if (parts.group(1) != null) {
            variables.put(parts.group(1), Long.parseLong(got));
        }
    }

    private long[] arguments(String text) {
        String[] words = text.isEmpty() ? new String[0] : text.split(", ");
        long[] numbers = new long[words.length];
        for (int i = 0; i < words.length; i++) {
            Long variable = variables.get(words[i]);
            numbers[i] = variable != null ? variable : Long.parseLong(words[i].replaceFirst("L$", ""));
        }
        return numbers;
    }

    private static String dueAnswer(String comment) {
        Matcher answer = ANSWER.matcher(comment == null ? "" : comment);
        return answer.matches() ? answer.group(1).replace("throws ", "throws.") : "no answer is told";
    }

    private void requireAllCalled() {
        for (Method method : KeyStates.class.getDeclaredMethods()) {
            boolean isPublic = java.lang.reflect.Modifier.isPublic(method.getModifiers());
            if (isPublic && !called.contains(method.getName())) {
                tell(method.getName() + " is in no example");
            }
        }
    }

    private void tell(String what) {
        wrong++;
        System.out.println(what);
    }
}
