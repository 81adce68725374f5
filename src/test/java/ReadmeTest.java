import java.io.IOException;
import java.lang.reflect.Method;
import java.lang.reflect.Modifier;
import java.nio.file.Files;
import java.nio.file.Path;
import java.util.List;
import java.util.regex.Matcher;
import java.util.regex.Pattern;

/** README.md tells the answers that its calls have: each line "table.call(..); // answer" is asked. */
public final class ReadmeTest {
    private static final Pattern CALL = Pattern.compile("table\\.(\\w+)\\(([-0-9, ]*)\\); +// (-?\\w+).*");
    private static final Pattern TEXT = Pattern.compile("String text = \"(.*)\";");

    public static void main(String[] args) throws IOException, ReflectiveOperationException {
        Expect.sentence("README.md says how to use the class");
        List<String> lines = Files.readAllLines(Path.of("README.md"));
        FrameTables table = new FrameTables();
        int asked = 0;
        for (String line : lines) {
            Matcher text = TEXT.matcher(line);
            if (text.matches()) {
                type(table, text.group(1).replace("\\n", "\n"));
            }
            Matcher call = CALL.matcher(line);
            if (call.matches()) {
                Expect.due(line, answer(table, call.group(1), call.group(2)), call.group(3));
                asked++;
            }
        }
        Expect.due("calls that were found", asked >= 19, true);
        for (Method method : FrameTables.class.getDeclaredMethods()) {
            boolean isPublic = Modifier.isPublic(method.getModifiers());
            boolean told = lines.stream().anyMatch(line -> line.startsWith("| `" + method.getName() + "("));
            Expect.due(method.getName() + " is told", told, isPublic);
        }
        Expect.end();
    }

    private static void type(FrameTables table, String text) {
        for (int i = 0; i < text.length(); i++) {
            table.sign(text.charAt(i));
        }
    }

    private static String answer(FrameTables table, String name, String told) throws ReflectiveOperationException {
        String[] numbers = told.isEmpty() ? new String[0] : told.split(", ");
        for (Method method : FrameTables.class.getMethods()) {
            if (method.getName().equals(name)) {
                Object[] arguments = new Object[numbers.length];
                for (int i = 0; i < numbers.length; i++) {
                    boolean isLong = method.getParameterTypes()[i] == long.class;
                    arguments[i] = isLong ? (Object) Long.valueOf(numbers[i]) : Integer.valueOf(numbers[i]);
                }
                return String.valueOf(method.invoke(table, arguments));
            }
        }
        return "no such call";
    }
}
