import java.io.IOException;
import java.lang.reflect.Method;
import java.nio.file.Files;
import java.nio.file.Path;
import java.util.List;
import java.util.regex.Matcher;
import java.util.regex.Pattern;

/** What README.md tells a reader to write gives the answers that it tells. */
public final class ReadmeTest {
    private static final Pattern NEW = Pattern.compile("GossipSchedule s = new GossipSchedule\\(\\);.*");
    private static final Pattern TEXT = Pattern.compile("String text = \"([^\"]*)\";.*");
    private static final Pattern CALL = Pattern.compile("s\\.(\\w+)\\(([^()]*)\\); +// (-?\\d+)(:.*)?");
    private static final Pattern CODE = Pattern.compile("\\| (-\\d+) \\| `(\\w+)` ");
    /** How many calls with answers and how many codes stand there: none is passed over unseen. */
    private static final int CALLS = 18;
    private static final int CODES = 14;

    private final Check check = new Check();
    private GossipSchedule s;
    private int calls = 0;
    private int codes = 0;

    public static void main(String[] args) throws IOException, ReflectiveOperationException {
        ReadmeTest test = new ReadmeTest();
        for (String line : Files.readAllLines(Path.of("README.md"))) {
            test.read(line);
        }
        test.check.due("calls with answers in README.md", test.calls, CALLS);
        test.check.due("error codes in README.md", test.codes, CODES);
        test.check.end();
    }

    private void read(String line) throws ReflectiveOperationException {
        Matcher text = TEXT.matcher(line);
        Matcher call = CALL.matcher(line);
        Matcher code = CODE.matcher(line);
        if (NEW.matcher(line).matches()) {
            s = new GossipSchedule();
        } else if (text.matches()) {
            Make.write(s, text.group(1));
        } else if (call.matches()) {
            calls++;
            long got = answer(call.group(1), call.group(2));
            check.due(line, got, Long.parseLong(call.group(3)));
        }
        while (code.find()) {
            codes++;
            check.due(code.group(2), constant(code.group(2)), Integer.parseInt(code.group(1)));
        }
    }

    private long answer(String name, String arguments) throws ReflectiveOperationException {
        List<String> words = arguments.isEmpty() ? List.of() : List.of(arguments.split(", "));
        Object[] values = new Object[words.size()];
        for (int i = 0; i < values.length; i++) {
            values[i] = value(words.get(i));
        }
        for (Method method : GossipSchedule.class.getMethods()) {
            if (method.getName().equals(name) && method.getParameterCount() == values.length) {
                return ((Number) method.invoke(s, values)).longValue();
            }
        }
        throw new IllegalStateException("README.md names a method that is not there: " + name);
    }

    private static Object value(String word) throws ReflectiveOperationException {
        if (word.equals("true") || word.equals("false")) {
            return word.equals("true");
        }
        return word.startsWith("GossipSchedule.") ? constant(word.substring(15)) : Integer.parseInt(word);
    }

    private static int constant(String name) throws ReflectiveOperationException {
        return GossipSchedule.class.getField(name).getInt(null);
    }
}
