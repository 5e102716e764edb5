import java.io.IOException;
import java.lang.reflect.Method;
import java.lang.reflect.Modifier;
import java.nio.file.Files;
import java.nio.file.Path;
import java.util.Arrays;
import java.util.regex.Matcher;
import java.util.regex.Pattern;

/** What README.md says of the class is so: its example answers as it is written there, and no call is left out. */
public final class ReadmeTest {
    private static final Pattern CALL = Pattern.compile("^x\\.(\\w+)\\(([^)]*)\\); +// (-?\\d+)", Pattern.MULTILINE);
    private static final Pattern TEXT = Pattern.compile("text = \"([^\"]+)\"");

    public static void main(String[] args) throws IOException, ReflectiveOperationException {
        Path project = Path.of(args[0]).toAbsolutePath().getParent().getParent().getParent().getParent();
        String readme = Files.readString(project.resolve("README.md"));
        theExampleAnswersSo(readme);
        eachCallStandsThere(readme);
        Due.isTrue("how the tests are run", readme.contains("`.ci/run`"));
        Due.end("ReadmeTest");
    }

    private static void theExampleAnswersSo(String readme) throws ReflectiveOperationException {
        HundredGongs x = new HundredGongs();
        Matcher text = TEXT.matcher(readme);
        Due.isTrue("a text", text.find());
        Due.write(x, text.group(1));
        Matcher call = CALL.matcher(readme);
        int calls = 0;
        while (call.find()) {
            calls++;
            Due.is(call.group(), answer(x, call.group(1), call.group(2)), Integer.parseInt(call.group(3)));
        }
        Due.isTrue("calls in the example: " + calls, calls >= 7);
    }

    private static int answer(HundredGongs x, String name, String numbers) throws ReflectiveOperationException {
        Object[] values = Arrays.stream(numbers.split(", *")).filter(one -> !one.isEmpty()).map(Integer::valueOf).toArray();
        Class<?>[] types = new Class<?>[values.length];
        Arrays.fill(types, int.class);
        return (int) HundredGongs.class.getMethod(name, types).invoke(x, values);
    }

    private static void eachCallStandsThere(String readme) {
        for (Method method : HundredGongs.class.getDeclaredMethods()) {
            if (Modifier.isPublic(method.getModifiers())) {
                Matcher row = Pattern.compile("`" + method.getName() + "\\(([^)]*)\\)`").matcher(readme);
                boolean stands = row.find();
                Due.isTrue("in the table: " + method, stands);
                long given = stands ? Arrays.stream(row.group(1).split(", *")).filter(one -> !one.isEmpty()).count() : -1;
                Due.is("numbers given to " + method.getName(), given, method.getParameterCount());
            }
        }
    }
}
