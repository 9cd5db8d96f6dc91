import java.lang.reflect.Method;
import java.lang.reflect.Modifier;
import java.nio.file.Files;
import java.nio.file.Path;
import java.util.regex.Matcher;
import java.util.regex.Pattern;

/** README.md tells every call with its numbers, and its example answers as it says. */
public final class ReadmeTest {
    private static final Check CHECK = new Check("ReadmeTest");
    private static final Pattern TEXT = Pattern.compile("\"([^\"]+)\"\\.toCharArray");
    private static final Pattern CALL = Pattern.compile("(?m)^pocket\\.(\\w+)\\(([-0-9, ]*)\\); +// (-?\\d+)");

    public static void main(String[] args) throws Exception {
        String readme = Files.readString(Path.of("README.md"));
        example(readme.substring(readme.indexOf("```java"), readme.lastIndexOf("```")));
        for (Method m : EitherPocket.class.getDeclaredMethods()) {
            if (Modifier.isPublic(m.getModifiers())) {
                CHECK.due("README.md tells " + m.getName(), numbersTold(readme, m.getName()), m.getParameterCount());
            }
        }
        CHECK.end();
    }

    private static void example(String code) throws ReflectiveOperationException {
        Matcher text = TEXT.matcher(code);
        CHECK.due("a text in the example", text.find() ? 1 : 0, 1);
        EitherPocket pocket = new EitherPocket();
        Check.type(pocket, text.group(1));
        int calls = 0;
        for (Matcher m = CALL.matcher(code); m.find(); calls++) {
            String[] told = m.group(2).isEmpty() ? new String[0] : m.group(2).split(", ");
            Class<?>[] types = new Class<?>[told.length];
            Object[] numbers = new Object[told.length];
            for (int i = 0; i < told.length; i++) {
                types[i] = int.class;
                numbers[i] = Integer.valueOf(told[i]);
            }
            Object got = EitherPocket.class.getMethod(m.group(1), types).invoke(pocket, numbers);
            CHECK.due(m.group(), (int) got, Integer.parseInt(m.group(3)));
        }
        CHECK.due("calls in the example", calls, code.split("(?m)^pocket\\.").length - 1);
    }

    /** -1, if the table has no row for the call. */
    private static int numbersTold(String readme, String name) {
        Matcher row = Pattern.compile("(?m)^\\| `" + name + "\\(([a-z, ]*)\\)` +\\|").matcher(readme);
        if (!row.find()) {
            return -1;
        }
        return row.group(1).isEmpty() ? 0 : row.group(1).split(", ").length;
    }
}
