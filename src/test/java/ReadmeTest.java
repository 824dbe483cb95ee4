import java.io.IOException;
import java.lang.reflect.Method;
import java.nio.file.Files;
import java.nio.file.Path;
import java.util.Arrays;
import java.util.regex.Matcher;
import java.util.regex.Pattern;

/** The calls that README.md shows, done in their order: each answers the number that stands behind it. */
public final class ReadmeTest {
    private static final Pattern MADE = Pattern.compile("^GuestKernel kernel = new GuestKernel\\(\\);$");
    private static final Pattern CALL = Pattern.compile("kernel\\.(\\w+)\\(([-\\d, ]+)\\);");
    private static final Pattern ANSWER = Pattern.compile("^int \\w+ = .*;\\s*// (-?\\d+)(:.*)?$");

    private static GuestKernel kernel;
    private static int answers;

    public static void main(String[] args) throws IOException, ReflectiveOperationException {
        for (String line : Files.readAllLines(Path.of("README.md"))) {
            if (MADE.matcher(line).matches()) {
                kernel = new GuestKernel();
            }
            Matcher call = CALL.matcher(line);
            if (call.find()) {
                called(line, call.group(1), call.group(2));
            }
        }
        if (answers == 0) {
            Check.tell("README.md shows no answer");
        }
        Check.end();
    }

    private static void called(String line, String name, String numbers) throws ReflectiveOperationException {
        if (kernel == null) {
            Check.tell("no kernel is made before: " + line);
            return;
        }
        Object got = method(name).invoke(kernel, Arrays.stream(numbers.split(", ")).map(Integer::valueOf).toArray());
        if (got == null) {
            return;
        }
        Matcher answer = ANSWER.matcher(line);
        if (answer.matches()) {
            answers++;
            Check.due(line, Integer.parseInt(answer.group(1)), (Integer) got);
        } else {
            Check.tell("the answer isn't shown: " + line);
        }
    }

    private static Method method(String name) throws NoSuchMethodException {
        for (Method method : GuestKernel.class.getMethods()) {
            if (method.getName().equals(name)) {
                return method;
            }
        }
        throw new NoSuchMethodException(name);
    }
}
