import java.io.IOException;
import java.lang.reflect.Method;
import java.nio.file.Files;
import java.nio.file.Path;
import java.util.List;
import java.util.regex.Matcher;
import java.util.regex.Pattern;

/** The example of README.md, call by call; it is read from there, so the two can't differ. */
final class ReadmeTest {
    /** A call, and behind -> what it answers. */
    private static final Pattern CALL = Pattern.compile("p\\.(\\w+)\\((.*?)\\);(?: *// (?:-> (-?[0-9.]+))?.*)?");

    private static final String MADE = "PlaneSplitter p = new PlaneSplitter();";

    private static final Expect expect = new Expect();

    public static void main(String[] args) throws IOException, ReflectiveOperationException {
        List<String> lines = Files.readAllLines(Path.of("README.md"));
        int start = lines.indexOf("```java") + 1;
        expect.isTrue("the example begins with a new object", lines.get(start).equals(MADE));
        PlaneSplitter p = new PlaneSplitter();
        int answers = 0;
        for (int i = start + 1; !lines.get(i).equals("```"); i++) {
            Matcher call = CALL.matcher(lines.get(i));
            expect.isTrue("this is a call: " + lines.get(i), call.matches());
            Object got = answer(p, call.group(1), call.group(2));
            if (call.group(3) != null) {
                expect.isTrue(lines.get(i) + " answered " + got, call.group(3).equals(String.valueOf(got)));
                answers++;
            }
        }
        expect.isTrue("the example tells answers", answers > 0);
        expect.end();
    }

    private static Object answer(PlaneSplitter p, String name, String arguments) throws ReflectiveOperationException {
        String[] words = arguments.isEmpty() ? new String[0] : arguments.split(", ");
        for (Method m : PlaneSplitter.class.getMethods()) {
            if (m.getName().equals(name)) {
                return answer(p, m, words);
            }
        }
        throw new NoSuchMethodException(name);
    }

    private static Object answer(PlaneSplitter p, Method m, String[] words) throws ReflectiveOperationException {
        Object[] values = new Object[words.length];
        for (int i = 0; i < words.length; i++) {
            Class<?> type = m.getParameterTypes()[i];
            if (type == int.class) {
                values[i] = Integer.valueOf(words[i]);
            } else if (type == float.class) {
                values[i] = Float.valueOf(words[i]);
            } else {
                values[i] = Boolean.valueOf(words[i]);
            }
        }
        return m.invoke(p, values);
    }
}
