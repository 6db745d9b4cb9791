import java.io.IOException;
import java.lang.reflect.InvocationTargetException;
import java.lang.reflect.Method;
import java.nio.file.Files;
import java.nio.file.Path;
import java.util.HashSet;
import java.util.Set;
import java.util.regex.Matcher;
import java.util.regex.Pattern;

/** Each call that README.md shows answers what README.md says behind it; each call of the face is told there. */
public final class ReadmeTest {
    private static final String MAKES = "DmaGate gate = new DmaGate();";
    private static final Pattern CALL =
            Pattern.compile("gate\\.(\\w+)\\(([^)]*)\\);\\s*// (\\w+|-\\d+)(:.*)?");

    private final Check check = new Check();
    private final Set<String> shown = new HashSet<>();
    private DmaGate gate = null;

    private static Method called(String name) {
        for (Method m : DmaGate.class.getMethods()) {
            if (m.getName().equals(name) && m.getDeclaringClass() == DmaGate.class) {
                return m;
            }
        }
        throw new IllegalArgumentException("README.md shows a call that there is not: " + name);
    }

    private static Object[] arguments(String written) {
        if (written.isBlank()) {
            return new Object[0];
        }
        String[] parts = written.split(",\\s*");
        Object[] values = new Object[parts.length];
        for (int k = 0; k < parts.length; k++) {
            boolean truth = parts[k].equals("true") || parts[k].equals("false");
            values[k] = truth ? (Object) Boolean.valueOf(parts[k]) : (Object) Integer.valueOf(parts[k]);
        }
        return values;
    }

    private String answer(String name, String written) throws IllegalAccessException {
        try {
            return called(name).invoke(gate, arguments(written)).toString();
        } catch (InvocationTargetException e) {
            return e.getCause().getClass().getSimpleName();
        }
    }

    private void line(String line) throws IllegalAccessException {
        if (line.equals(MAKES)) {
            gate = new DmaGate();
            return;
        }
        Matcher m = CALL.matcher(line);
        boolean read = m.matches() && gate != null;
        check.due("README.md's line can be read: " + line, read, true);
        if (!read) {
            return;
        }
        shown.add(m.group(1));
        String want = m.group(3).equals("NONE") ? "" + DmaGate.NONE : m.group(3);
        String got = answer(m.group(1), m.group(2));
        check.due("README.md's " + line + " (answered " + got + ")", got.equals(want), true);
    }

    private void readme() throws IOException, IllegalAccessException {
        boolean code = false;
        for (String line : Files.readAllLines(Path.of("README.md"))) {
            if (line.startsWith("```")) {
                code = line.equals("```java");
            } else if (code && !line.isBlank()) {
                line(line);
            }
        }
        for (Method m : DmaGate.class.getMethods()) {
            if (m.getDeclaringClass() == DmaGate.class) {
                check.due("README.md shows " + m.getName(), shown.contains(m.getName()), true);
            }
        }
    }

    public static void main(String[] args) throws IOException, IllegalAccessException {
        ReadmeTest test = new ReadmeTest();
        test.readme();
        test.check.end("ReadmeTest");
    }
}
