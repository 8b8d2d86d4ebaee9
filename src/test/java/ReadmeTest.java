import java.lang.reflect.Method;
import java.util.regex.Matcher;
import java.util.regex.Pattern;

/** The examples of README.md: each line of them that calls the machine answers what stands behind it. */
public final class ReadmeTest {
    private static final String README = Sentence.text("README.md");
    private static final Pattern BLOCK = Pattern.compile("(?s)```java\n(.*?)```");
    private static final Pattern MADE = Pattern.compile("UseOnceMachine x = new UseOnceMachine\\(\\);");
    private static final Pattern CALL = Pattern.compile("x\\.(\\w+)\\(([-\\d, ]*)\\); +// (-?\\d+|true|false)(:.*)?");

    public static void main(String[] args) throws ReflectiveOperationException {
        int examples = 0;
        Matcher block = BLOCK.matcher(README);
        while (block.find()) {
            examples++;
            run(block.group(1).split("\n"));
        }
        Check.same("there are examples", examples > 0, true);
        for (Method m : UseOnceMachine.class.getDeclaredMethods()) {
            Check.same("README.md names " + m.getName(), README.contains("`" + m.getName() + "("), true);
        }
        Check.end();
    }

    private static void run(String[] lines) throws ReflectiveOperationException {
        Check.same("an example makes a machine first", MADE.matcher(lines[0]).matches(), true);
        UseOnceMachine x = new UseOnceMachine();
        for (int i = 1; i < lines.length; i++) {
            Matcher call = CALL.matcher(lines[i]);
            Check.same("can be read: " + lines[i], call.matches(), true);
            if (call.matches()) {
                Check.same(lines[i], answer(x, call.group(1), call.group(2)), call.group(3));
            }
        }
    }

    private static String answer(UseOnceMachine x, String name, String numbers) throws ReflectiveOperationException {
        String[] parts = numbers.isEmpty() ? new String[0] : numbers.split(", ");
        Class<?>[] types = new Class<?>[parts.length];
        Object[] values = new Object[parts.length];
        for (int i = 0; i < parts.length; i++) {
            types[i] = int.class;
            values[i] = Integer.valueOf(parts[i]);
        }
        return UseOnceMachine.class.getMethod(name, types).invoke(x, values).toString();
    }
}
