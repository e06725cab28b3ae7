import java.lang.reflect.InvocationTargetException;
import java.lang.reflect.Method;
import java.nio.file.Files;
import java.nio.file.Path;
import java.util.Arrays;
import java.util.regex.Matcher;
import java.util.regex.Pattern;

/** README.md is run as it stands: each call there that has an answer behind it, and each text fed. */
public final class ReadmeTest {
    private static final Checks C = new Checks();
    private static final Pattern CALL =
            Pattern.compile("x\\.(\\w+)\\(([-0-9, ]*)\\);\\s*// (-?\\d+): .*");
    private static final Pattern FED = Pattern.compile("for \\(char c : \"(.*)\"\\.toCharArray\\(\\)\\) \\{");

    public static void main(String[] args) throws Exception {
        C.of("README.md");
        InkOfLetters x = new InkOfLetters();
        int calls = 0;
        int texts = 0;
        for (String line : Files.readAllLines(Path.of("README.md"))) {
            Matcher call = CALL.matcher(line);
            Matcher fed = FED.matcher(line);
            if (fed.matches()) {
                Checks.feed(x, fed.group(1));
                texts++;
            } else if (call.matches()) {
                C.due(line, answer(x, call.group(1), call.group(2)), Long.parseLong(call.group(3)));
                calls++;
            } else {
                C.due("a call that is not read: " + line, line.startsWith("x.") ? 1 : 0, 0);
            }
        }
        C.due("calls there", calls > 20 ? 1 : 0, 1);
        C.due("texts fed there", texts, 1);
        C.end();
    }

    private static long answer(InkOfLetters x, String name, String numbers) throws Exception {
        Object[] a = Arrays.stream(numbers.split(", *")).filter(s -> !s.isEmpty())
                .map(Integer::valueOf).toArray();
        Class<?>[] types = new Class<?>[a.length];
        Arrays.fill(types, int.class);
        Method m = InkOfLetters.class.getMethod(name, types);
        try {
            return ((Number) m.invoke(x, a)).longValue();
        } catch (InvocationTargetException e) {
            throw new IllegalStateException(name + " threw " + e.getCause());
        }
    }
}
