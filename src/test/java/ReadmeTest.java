import java.lang.reflect.Method;
import java.lang.reflect.Modifier;
import java.nio.file.Files;
import java.nio.file.Path;
import java.util.regex.Matcher;
import java.util.regex.Pattern;

/** What README.md tells of the class: its example, call by call, and that it leaves out no call. */
public final class ReadmeTest {
    private static final Pattern BLOCK = Pattern.compile("(?s)```text\n(.*?)```");
    private static final Pattern CALL = Pattern.compile("(?m)^(\\w+)\\(([-0-9, ]*)\\) = (\\S+)");

    public static void main(String[] args) throws Exception {
        String page = Files.readString(Path.of("README.md"));
        Matcher block = BLOCK.matcher(page);
        Checks.is("README.md has a text", block.find(), true);
        OrderSplit x = Checks.made(block.group(1).replace('\n', ' '));
        Checks.is("README.md has an example", block.find(), true);
        example(x, block.group(1));
        everyCall(page);
        Checks.end("ReadmeTest");
    }

    private static void example(OrderSplit x, String lines) throws Exception {
        int seen = 0;
        Matcher m = CALL.matcher(lines);
        while (m.find()) {
            String got = String.valueOf(answer(x, m.group(1), m.group(2)));
            Checks.is(m.group() + ", but it answered " + got, got.equals(m.group(3)), true);
            seen++;
        }
        Checks.is("each line of the example is a call", seen, lines.lines().count());
    }

    private static Object answer(OrderSplit x, String name, String list) throws Exception {
        String[] words = list.isEmpty() ? new String[0] : list.split(", ");
        Object[] numbers = new Object[words.length];
        Class<?>[] types = new Class<?>[words.length];
        for (int i = 0; i < words.length; i++) {
            numbers[i] = Integer.valueOf(words[i]);
            types[i] = int.class;
        }
        return OrderSplit.class.getMethod(name, types).invoke(x, numbers);
    }

    private static void everyCall(String page) {
        for (Method m : OrderSplit.class.getDeclaredMethods()) {
            if (Modifier.isPublic(m.getModifiers())) {
                Checks.is("README.md names " + m.getName(), page.contains("`" + m.getName() + "("), true);
            }
        }
    }
}
