import java.io.IOException;
import java.lang.reflect.Method;
import java.lang.reflect.Modifier;
import java.nio.file.Files;
import java.nio.file.Path;
import java.util.regex.Matcher;
import java.util.regex.Pattern;

/** README.md: its example answers what stands beside it, and it names every call and how to run the tests. */
public final class ReadmeTest {
    private static final Pattern MADE = Pattern.compile("SpanningProbes x = new SpanningProbes\\((-?\\d+)\\);.*");
    private static final Pattern ASKED = Pattern.compile("x\\.(\\w+)\\(([^)]*)\\);\\s*// (true|false|-?\\d+).*");
    private static final Due due = new Due();

    public static void main(String[] args) throws IOException, ReflectiveOperationException {
        String readme = Files.readString(Path.of("README.md"));
        exampleAnswersWhatItSays(readme);
        everyCallIsNamed(readme);
        due.holds("README.md says how to run the tests", readme.contains("\n    .ci/run\n"));
        due.end("ReadmeTest");
    }

    private static void exampleAnswersWhatItSays(String readme) throws ReflectiveOperationException {
        Matcher example = Pattern.compile("(?s)```java\n(.*?)```").matcher(readme);
        due.holds("README.md has an example", example.find());
        SpanningProbes x = null;
        for (String line : example.group(1).split("\n")) {
            Matcher made = MADE.matcher(line);
            Matcher asked = ASKED.matcher(line);
            if (made.matches()) {
                x = new SpanningProbes(Integer.parseInt(made.group(1)));
            } else if (asked.matches()) {
                due.same(line, String.valueOf(answer(x, asked.group(1), asked.group(2))), asked.group(3));
            } else {
                due.holds("the example's line tells its answer: " + line, line.isEmpty());
            }
        }
    }

    private static Object answer(SpanningProbes x, String name, String given) throws ReflectiveOperationException {
        String[] texts = given.isEmpty() ? new String[0] : given.split(", ");
        Class<?>[] types = new Class<?>[texts.length];
        Object[] values = new Object[texts.length];
        for (int i = 0; i < texts.length; i++) {
            types[i] = int.class;
            values[i] = Integer.valueOf(texts[i]);
        }
        return SpanningProbes.class.getMethod(name, types).invoke(x, values);
    }

    private static void everyCallIsNamed(String readme) {
        for (Method m : SpanningProbes.class.getDeclaredMethods()) {
            if (Modifier.isPublic(m.getModifiers())) {
                due.holds("README.md names " + m.getName(), readme.contains("`" + m.getName() + "("));
            }
        }
    }
}
