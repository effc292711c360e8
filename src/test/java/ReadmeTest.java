import java.io.IOException;
import java.lang.reflect.InvocationTargetException;
import java.lang.reflect.Method;
import java.nio.file.Files;
import java.nio.file.Path;
import java.util.ArrayList;
import java.util.List;
import java.util.Set;
import java.util.TreeSet;
import java.util.regex.Matcher;
import java.util.regex.Pattern;

/** What README.md says holds of the class: each call that it shows is done, and its answer compared. */
public final class ReadmeTest {
    private static final String OPEN = "```java";
    private static final String CLOSE = "```";
    private static final Pattern MADE = Pattern.compile("RopeTown x = new RopeTown\\(\\);");
    private static final Pattern TOLD = Pattern.compile("tell\\(x, \"([^\"]*)\"\\);\\s+// (-?\\d+)(:.*)?");
    private static final Pattern CALLED =
        Pattern.compile("x\\.(\\w+)\\(([^)]*)\\);(?:\\s+// (-?\\d+|NONE|true|false|\\w+Exception)(:.*)?)?");

    private static final Set<String> shown = new TreeSet<>();
    private static final Set<String> refused = new TreeSet<>();

    public static void main(String[] args) throws Exception {
        List<String> page = Files.readAllLines(Path.of("README.md"));
        List<List<String>> blocks = blocks(page);
        int runs = 0;
        for (List<String> block : blocks) {
            if (MADE.matcher(block.get(0)).matches()) {
                run(block);
                runs++;
            } else {
                checkHelper(block);
            }
        }
        Check.same("blocks that are no run", 1, blocks.size() - runs);
        checkFace(page);
        Check.end("ReadmeTest");
    }

    private static List<List<String>> blocks(List<String> page) {
        List<List<String>> blocks = new ArrayList<>();
        List<String> open = null;
        for (String line : page) {
            if (line.equals(OPEN)) {
                open = new ArrayList<>();
            } else if (line.equals(CLOSE)) {
                blocks.add(open);
                open = null;
            } else if (open != null) {
                open.add(line);
            }
        }
        return blocks;
    }

    private static void run(List<String> block) throws Exception {
        RopeTown x = new RopeTown();
        for (String line : block.subList(1, block.size())) {
            Matcher told = TOLD.matcher(line);
            Matcher called = CALLED.matcher(line);
            if (told.matches()) {
                Check.sameText(line, told.group(2), String.valueOf(Check.tell(x, told.group(1))));
            } else if (called.matches()) {
                String due = called.group(3) == null ? "null" : called.group(3);
                Check.sameText(line, due.equals("NONE") ? "-1" : due, answer(x, called.group(1), called.group(2)));
                (due.endsWith("Exception") ? refused : shown).add(called.group(1));
            } else {
                Check.sameText("a line of a run", "a call with its answer", line);
            }
        }
    }

    private static String answer(RopeTown x, String name, String numbers) throws Exception {
        String[] parts = numbers.isEmpty() ? new String[0] : numbers.split(", ");
        Object[] given = new Object[parts.length];
        for (int i = 0; i < parts.length; i++) {
            given[i] = Integer.decode(parts[i]);
        }
        try {
            return String.valueOf(method(name).invoke(x, given));
        } catch (InvocationTargetException e) {
            return e.getCause().getClass().getSimpleName();
        }
    }

    private static Method method(String name) {
        for (Method method : RopeTown.class.getMethods()) {
            if (method.getDeclaringClass() == RopeTown.class && method.getName().equals(name)) {
                return method;
            }
        }
        throw new IllegalStateException("README.md shows a call that there isn't: " + name);
    }

    /** The lines by which a text is told are the very ones that the tests tell theirs by. */
    private static void checkHelper(List<String> block) throws IOException {
        String code = Files.readString(Path.of("src/test/java/Check.java"));
        for (String line : block) {
            Check.same("Check.java has \"" + line + "\"", 1, line.isEmpty() || code.contains("    " + line + "\n") ? 1 : 0);
        }
    }

    /** Each call has a heading with all that it is declared by, and is shown with an answer and each exception. */
    private static void checkFace(List<String> page) {
        Set<String> headings = new TreeSet<>();
        for (String line : page) {
            if (line.startsWith("### `")) {
                headings.add(line);
            }
        }
        Set<String> due = new TreeSet<>();
        due.add("### `RopeTown()`");
        for (Method method : RopeTown.class.getMethods()) {
            if (method.getDeclaringClass() == RopeTown.class) {
                due.add(heading(method, headings));
                Check.same(method.getName() + " is shown", 1, shown.contains(method.getName()) ? 1 : 0);
                boolean throwsOne = method.getExceptionTypes().length > 0;
                Check.same(method.getName() + " is shown refused", 1, !throwsOne || refused.contains(method.getName()) ? 1 : 0);
            }
        }
        Check.sameText("headings", due.toString(), headings.toString());
    }

    /** The heading that a call must have; parameters' names aren't known here: they are taken as they stand. */
    private static String heading(Method method, Set<String> headings) {
        StringBuilder form = new StringBuilder("### `" + method.getReturnType() + " " + method.getName() + "\\(");
        for (int i = 0; i < method.getParameterCount(); i++) {
            form.append(i > 0 ? ", " : "").append(method.getParameterTypes()[i]).append(" [a-z]+");
        }
        form.append("\\)");
        for (Class<?> thrown : method.getExceptionTypes()) {
            form.append(" throws ").append(thrown.getSimpleName());
        }
        form.append("`");
        for (String heading : headings) {
            if (heading.matches(form.toString())) {
                return heading;
            }
        }
        return form.toString();
    }
}
