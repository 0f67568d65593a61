import java.io.IOException;
import java.lang.reflect.Method;
import java.nio.file.Files;
import java.nio.file.Path;
import java.util.HashMap;
import java.util.Map;
import java.util.regex.Matcher;
import java.util.regex.Pattern;

/** Makes the calls that README.md shows: each answers the number that is written behind it. */
public final class ReadmeTest {
    private static final Pattern CALL =
        Pattern.compile("(?:int (\\w+) = )?x\\.(\\w+)\\((.*?)\\);(?: +// (-?\\d+)\\b.*| +//.*)?");

    private static final Map<String, Integer> NAMED = new HashMap<>();

    private static Object[] numbers(String arguments) {
        if (arguments.isEmpty()) {
            return new Object[0];
        }
        String[] texts = arguments.split(", ");
        Object[] numbers = new Object[texts.length];
        for (int k = 0; k < texts.length; k++) {
            numbers[k] = NAMED.containsKey(texts[k]) ? NAMED.get(texts[k]) : Integer.decode(texts[k]);
        }
        return numbers;
    }

    private static int answer(GuideWords x, String name, Object[] numbers) throws ReflectiveOperationException {
        for (Method method : GuideWords.class.getMethods()) {
            if (method.getName().equals(name) && method.getParameterCount() == numbers.length) {
                return (int) method.invoke(x, numbers);
            }
        }
        throw new AssertionError("there is no call " + name);
    }

    public static void main(String[] args) throws IOException, ReflectiveOperationException {
        GuideWords x = new GuideWords();
        int told = 0;
        int wrong = 0;
        for (String line : Files.readAllLines(Path.of("README.md"))) {
            Matcher call = CALL.matcher(line);
            if (!call.matches()) {
                continue;
            }
            int got = answer(x, call.group(2), numbers(call.group(3)));
            if (call.group(1) != null) {
                NAMED.put(call.group(1), got);
            }
            if (call.group(4) != null) {
                told++;
                if (got != Integer.parseInt(call.group(4))) {
                    wrong++;
                    System.out.println(line + " answered " + got);
                }
            }
        }
        System.out.println("README.md tells " + told + " answers, " + wrong + " are wrong");
        if (wrong > 0 || told == 0) {
            System.exit(1);
        }
    }
}
