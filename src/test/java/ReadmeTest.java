import java.io.IOException;
import java.lang.reflect.Method;
import java.lang.reflect.Modifier;
import java.nio.file.Files;
import java.nio.file.Path;
import java.util.regex.Matcher;
import java.util.regex.Pattern;

/** README.md agrees with the class: its example answers as it says, and its table has every call. */
final class ReadmeTest {
    private static final Pattern CALL = Pattern.compile("^x\\.(\\w+)\\((.*?)\\); *// (-?\\d+)\\b.*", Pattern.MULTILINE);

    /** A row of the example that makes no call by this pattern would go unseen, so their number is asked for, too. */
    private static final Pattern ROW = Pattern.compile("^x\\.", Pattern.MULTILINE);

    public static void main(String[] args) throws IOException, ReflectiveOperationException {
        Checks checks = new Checks("README.md");
        String readme = Files.readString(Path.of("README.md"));
        ValueTexts x = new ValueTexts();
        Matcher call = CALL.matcher(readme);
        int calls = 0;
        while (call.find()) {
            calls++;
            checks.due(call.group(1) + "(" + call.group(2) + ")", answer(x, call.group(1), call.group(2)),
                    Integer.parseInt(call.group(3)));
        }
        checks.due("the rows of the example with an answer", calls, ROW.matcher(readme).results().count());
        for (Method method : ValueTexts.class.getDeclaredMethods()) {
            if (Modifier.isPublic(method.getModifiers())) {
                checks.due("the table's row of " + method.getName(), readme.contains("\n| `" + method.getName() + "(") ? 1 : 0, 1);
                checks.due("the example has " + method.getName(), readme.contains("\nx." + method.getName() + "(") ? 1 : 0, 1);
            }
        }
        checks.finish();
    }

    private static int answer(ValueTexts x, String name, String written) throws ReflectiveOperationException {
        String[] parts = written.isEmpty() ? new String[0] : written.split(", *");
        Class<?>[] types = new Class<?>[parts.length];
        Object[] numbers = new Object[parts.length];
        for (int i = 0; i < parts.length; i++) {
            types[i] = int.class;
            numbers[i] = Integer.decode(parts[i]);
        }
        return (Integer) ValueTexts.class.getMethod(name, types).invoke(x, numbers);
    }
}
