import java.io.IOException;
import java.lang.reflect.Method;
import java.nio.file.Files;
import java.nio.file.Path;
import java.util.regex.Matcher;
import java.util.regex.Pattern;

/** README.md's example: each call answers what stands behind it, and its table names every call once. */
public final class ReadmeTest {
    private static final Pattern CALL = Pattern.compile("x\\.(\\w+)\\(([^)]*)\\);\\s*// = (true|false|-?\\d+).*");
    private static final Pattern TEXT = Pattern.compile("tell\\(x, \"(.*)\"\\);");

    public static void main(String[] args) throws IOException, ReflectiveOperationException {
        Check check = new Check("ReadmeTest");
        GallopDispatch x = new GallopDispatch();
        StringBuilder table = new StringBuilder();
        int calls = 0;
        for (String line : Files.readAllLines(Path.of("README.md"))) {
            Matcher text = TEXT.matcher(line);
            Matcher call = CALL.matcher(line);
            if (text.matches()) {
                Check.feed(x, text.group(1));
            } else if (call.matches()) {
                calls++;
                String due = call.group(3);
                String got = String.valueOf(answer(x, call.group(1), call.group(2)));
                check.due(line + " answered " + got, got.equals(due), true);
            } else if (line.startsWith("| ")) {
                table.append(line);
            }
        }
        check.due("calls, " + calls, calls > 20, true);
        for (Method m : GallopDispatch.class.getMethods()) {
            if (m.getDeclaringClass() == GallopDispatch.class) {
                check.due(m.getName() + " in the table", table.toString().split("`" + m.getName() + "`", -1).length, 2);
            }
        }
        check.end();
    }

    private static Object answer(GallopDispatch x, String name, String list) throws ReflectiveOperationException {
        String[] words = list.isEmpty() ? new String[0] : list.split(", ");
        for (Method m : GallopDispatch.class.getMethods()) {
            if (m.getName().equals(name) && m.getDeclaringClass() == GallopDispatch.class) {
                Object[] numbers = new Object[words.length];
                for (int k = 0; k < words.length; k++) {
                    numbers[k] = number(m.getParameterTypes()[k], words[k]);
                }
                return m.invoke(x, numbers);
            }
        }
        return "no such call";
    }

    private static Object number(Class<?> type, String word) {
        if (type == boolean.class) {
            return Boolean.valueOf(word);
        }
        if (type == long.class) {
            return Long.valueOf(word.replace("L", ""));
        }
        return Integer.valueOf(word);
    }
}
