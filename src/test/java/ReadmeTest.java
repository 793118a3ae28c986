import java.io.IOException;
import java.lang.reflect.Method;
import java.nio.file.Files;
import java.nio.file.Path;
import java.util.regex.Matcher;
import java.util.regex.Pattern;

/** The calls of README.md answer what it tells. It is run where README.md is. */
public final class ReadmeTest {
    private static final Pattern NEW =
            Pattern.compile("StepVersions x = new StepVersions\\(\\);.*");
    private static final Pattern TEXT = Pattern.compile("text\\(x, \"(.*)\"\\);");
    private static final Pattern CALL =
            Pattern.compile("x\\.(\\w+)\\(([-0-9, ]*)\\); *// (-?\\d+)(:.*)?");
    private static final int CALLS = 25;

    private static StepVersions x;

    public static void main(String[] args) throws IOException, ReflectiveOperationException {
        int calls = 0;
        for (String line : Files.readAllLines(Path.of("README.md"))) {
            Matcher text = TEXT.matcher(line);
            Matcher call = CALL.matcher(line);
            if (NEW.matcher(line).matches()) {
                x = new StepVersions();
            } else if (text.matches()) {
                Check.text(x, text.group(1));
            } else if (call.matches()) {
                calls++;
                int want = Integer.parseInt(call.group(3));
                Check.due(line, want, answer(call.group(1), call.group(2)));
            }
        }
        Check.due("calls that were found", CALLS, calls);
        Check.end();
    }

    private static int answer(String name, String list) throws ReflectiveOperationException {
        String[] words = list.isEmpty() ? new String[0] : list.split(", ");
        Object[] values = new Object[words.length];
        Class<?>[] types = new Class<?>[words.length];
        for (int i = 0; i < words.length; i++) {
            values[i] = Integer.valueOf(words[i]);
            types[i] = int.class;
        }
        Method method = StepVersions.class.getMethod(name, types);
        return (int) method.invoke(x, values);
    }
}
