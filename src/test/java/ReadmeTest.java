import java.io.IOException;
import java.lang.reflect.InvocationTargetException;
import java.lang.reflect.Method;
import java.nio.file.Files;
import java.nio.file.Path;
import java.util.regex.Matcher;
import java.util.regex.Pattern;

/** The example of README.md is run line by line: each call answers what its comment begins with. */
public final class ReadmeTest {
    private static final Pattern CALL = Pattern.compile("desk\\.(\\w+)\\(([-0-9, ]*)\\); +// ([-\\w]+): .*");

    public static void main(String[] args) throws IOException, IllegalAccessException {
        BuildDesk desk = new BuildDesk();
        int calls = 0;
        for (String line : Files.readAllLines(Path.of("README.md"))) {
            if (line.startsWith("desk.")) {
                Matcher call = CALL.matcher(line);
                Check.yes("can be read: " + line, call.matches());
                if (call.matches()) {
                    Check.due(line, answer(desk, call.group(1), call.group(2)), call.group(3));
                    calls++;
                }
            }
        }
        Check.yes("the example has calls", calls > 0);
        Check.end();
    }

    private static String answer(BuildDesk desk, String name, String list) throws IllegalAccessException {
        String[] texts = list.split(", ");
        Object[] numbers = new Object[texts.length];
        for (int i = 0; i < texts.length; i++) {
            numbers[i] = Integer.valueOf(texts[i]);
        }
        for (Method method : BuildDesk.class.getMethods()) {
            if (method.getName().equals(name) && method.getParameterCount() == numbers.length) {
                try {
                    return String.valueOf(method.invoke(desk, numbers));
                } catch (InvocationTargetException e) {
                    return e.getCause().getClass().getSimpleName();
                }
            }
        }
        return "no such call";
    }
}
