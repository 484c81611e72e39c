import java.io.IOException;
import java.lang.reflect.InvocationTargetException;
import java.lang.reflect.Method;
import java.lang.reflect.Modifier;
import java.nio.file.Files;
import java.nio.file.Path;
import java.util.List;
import java.util.Set;
import java.util.TreeSet;
import java.util.regex.Matcher;
import java.util.regex.Pattern;

/**
 * What README.md shows is true of the class: each line of its examples is
 * called, and answers what the line's comment says.
 */
public final class ReadmeTest {
    private static final Checks CHECKS = new Checks("ReadmeTest");

    private static final String MADE = "OnlyInDisguise x = new OnlyInDisguise();";
    private static final Pattern CALL = Pattern.compile(
        "x\\.(\\w+)\\(([-0-9, ]*)\\); +// (-?[0-9]+|throws \\w+)(: .*)?");
    private static final Pattern TELL = Pattern.compile(
        "tell\\(x, ([0-7]), \"([^\"]*)\"\\); +// (-?[0-9]+)(: .*)?");
    private static final Pattern FILL = Pattern.compile("fill\\(x, ([0-7]), ([0-2])((, -?[0-9]+)*)\\);( +// .*)?");

    private static final String[] GROUPS = {"### The cabinet as told", "### Days on",
        "### Costumes, who should hold what", "### What kind one is, who held it",
        "### Told lists, years by seeds", "### The image, what is told", "### Shelves", "### Refusals"};

    private static OnlyInDisguise x = null;
    private static final Set<String> SHOWN = new TreeSet<>();

    public static void main(String[] args) throws IOException {
        List<String> lines = Files.readAllLines(Path.of("README.md"));
        boolean inExample = false;
        for (int i = 0; i < lines.size(); i++) {
            String line = lines.get(i);
            if (line.startsWith("```")) {
                inExample = line.equals("```java");
                x = null;
            } else if (inExample && !line.isBlank()) {
                follow("line " + (i + 1) + ": " + line, line);
            }
        }
        for (String group : GROUPS) {
            CHECKS.due("README.md has " + group, lines.contains(group) ? 1 : 0, 1);
        }
        for (Method m : OnlyInDisguise.class.getDeclaredMethods()) {
            if (Modifier.isPublic(m.getModifiers())) {
                CHECKS.due("README.md shows " + m.getName(), SHOWN.contains(m.getName()) ? 1 : 0, 1);
            }
        }
        CHECKS.end();
    }

    private static void follow(String at, String line) {
        Matcher call = CALL.matcher(line);
        Matcher tell = TELL.matcher(line);
        Matcher fill = FILL.matcher(line);
        if (line.equals(MADE)) {
            x = new OnlyInDisguise();
        } else if (x == null) {
            CHECKS.same(at, "an object made in the same example", "none");
        } else if (call.matches()) {
            SHOWN.add(call.group(1));
            CHECKS.same(at, answer(call.group(1), numbers(call.group(2))), call.group(3));
        } else if (tell.matches()) {
            SHOWN.add("cabinet");
            int told = Checks.tell(x, Integer.parseInt(tell.group(1)), tell.group(2));
            CHECKS.same(at, "" + told, tell.group(3));
        } else if (fill.matches()) {
            Checks.fill(x, Integer.parseInt(fill.group(1)), Integer.parseInt(fill.group(2)),
                numbers(fill.group(3).replaceFirst("^, ", "")));
        } else {
            CHECKS.same(at, "no call that this test can follow", "a call with its answer");
        }
    }

    private static int[] numbers(String told) {
        if (told.isBlank()) {
            return new int[0];
        }
        String[] parts = told.split(", ");
        int[] numbers = new int[parts.length];
        for (int i = 0; i < parts.length; i++) {
            numbers[i] = Integer.parseInt(parts[i]);
        }
        return numbers;
    }

    private static String answer(String name, int[] numbers) {
        for (Method m : OnlyInDisguise.class.getDeclaredMethods()) {
            if (Modifier.isPublic(m.getModifiers()) && m.getName().equals(name)
                    && m.getParameterCount() == numbers.length) {
                return answerOf(m, numbers);
            }
        }
        return "no such call";
    }

    private static String answerOf(Method m, int[] numbers) {
        Object[] given = new Object[numbers.length];
        for (int i = 0; i < numbers.length; i++) {
            given[i] = numbers[i];
        }
        try {
            return "" + m.invoke(x, given);
        } catch (InvocationTargetException e) {
            return "throws " + e.getCause().getClass().getSimpleName();
        } catch (IllegalAccessException e) {
            return "not to be called";
        }
    }
}
