import java.io.IOException;
import java.lang.reflect.Method;
import java.lang.reflect.Modifier;
import java.nio.file.Files;
import java.nio.file.Path;
import java.util.ArrayList;
import java.util.List;
import java.util.Set;
import java.util.TreeSet;
import java.util.regex.Matcher;
import java.util.regex.Pattern;

/** README.md shows calls with their answers: each is made, and its answer has to be the one that is shown. */
public final class ReadmeTests extends Check {
    private static final Pattern MADE = Pattern.compile("JobTests x = new JobTests\\(\\);");
    private static final Pattern WRITTEN = Pattern.compile("write\\(x, \"(.*)\"\\);");
    private static final Pattern ASKED = Pattern.compile("x\\.(\\w+)\\(([-0-9, ]*)\\);\\s*// (-?\\d+)(:.*)?");
    private static final Pattern IN_TABLE = Pattern.compile("\\| `(\\w+)\\(([\\w, ]*)\\)` \\|.*");

    // Type is not shown with an answer, but as a part of the method write.
    private static final Set<String> SHOWN = new TreeSet<>(Set.of("type"));

    private static JobTests x = null;

    public static void main(String[] args) throws IOException, ReflectiveOperationException {
        List<String> lines = Files.readAllLines(Path.of("README.md"));
        sentence("README.md");
        makeShownCalls(lines);
        everyCallIsShownAndTold(lines);
        end();
    }

    private static void makeShownCalls(List<String> lines) throws ReflectiveOperationException {
        boolean inCode = false;
        for (String line : lines) {
            if (line.startsWith("```")) {
                inCode = line.equals("```java");
            } else if (inCode && !line.isEmpty()) {
                makeShown(line);
            }
        }
    }

    private static void makeShown(String line) throws ReflectiveOperationException {
        Matcher written = WRITTEN.matcher(line);
        Matcher asked = ASKED.matcher(line);
        if (MADE.matcher(line).matches()) {
            x = new JobTests();
        } else if (written.matches()) {
            typeText(x, written.group(1));
        } else if (asked.matches()) {
            SHOWN.add(asked.group(1));
            due(line, answerOf(asked.group(1), asked.group(2)), Integer.parseInt(asked.group(3)));
        } else if (x != null) {
            // Ahead of the first object stand the lines of the method write; typeText does the same.
            dueText(line, "a line that cannot be tested", "a call with its answer");
        }
    }

    private static int answerOf(String name, String numbers) throws ReflectiveOperationException {
        List<Object> given = new ArrayList<>();
        for (String number : numbers.split(", *")) {
            if (!number.isEmpty()) {
                given.add(Integer.valueOf(number));
            }
        }
        for (Method method : JobTests.class.getDeclaredMethods()) {
            if (Modifier.isPublic(method.getModifiers()) && method.getName().equals(name)) {
                return (Integer) method.invoke(x, given.toArray());
            }
        }
        throw new IllegalStateException("README.md shows " + name + ", which the class does not have");
    }

    private static void everyCallIsShownAndTold(List<String> lines) {
        Set<String> told = new TreeSet<>();
        for (String line : lines) {
            Matcher row = IN_TABLE.matcher(line);
            if (row.matches()) {
                String given = row.group(2);
                told.add(row.group(1) + " " + (given.isEmpty() ? 0 : given.split(",").length));
            }
        }
        Set<String> names = new TreeSet<>();
        Set<String> face = new TreeSet<>();
        for (Method method : JobTests.class.getDeclaredMethods()) {
            if (Modifier.isPublic(method.getModifiers())) {
                names.add(method.getName());
                face.add(method.getName() + " " + method.getParameterCount());
            }
        }
        dueText("calls that are shown", SHOWN.toString(), names.toString());
        dueText("calls in the table, and how many numbers they are given", told.toString(), face.toString());
    }
}
