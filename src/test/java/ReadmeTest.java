import java.io.IOException;
import java.lang.reflect.Method;
import java.nio.file.Files;
import java.nio.file.Path;
import java.util.List;
import java.util.Set;
import java.util.TreeSet;
import java.util.regex.Matcher;
import java.util.regex.Pattern;
import java.util.stream.Collectors;
import java.util.stream.Stream;

/** Every call that README.md shows, in its order, with the answer that it tells; and what else it must name. */
public final class ReadmeTest {
    private static final Checks CHECKS = new Checks("ReadmeTest");
    private static final String NEW = "ColumnHouse x = new ColumnHouse();";
    private static final Pattern CALL = Pattern.compile("x\\.(\\w+)\\(([^()]*)\\);\\s*// (-?\\w+)(?:: (.*))?");
    private static final int MOST_CALLS = 512;

    private static ColumnHouse x;
    private static int calls;
    private static final Set<String> SHOWN = new TreeSet<>();

    public static void main(String[] args) throws IOException, ReflectiveOperationException {
        String readme = Files.readString(Path.of("README.md"));
        doCalls(readme.lines().collect(Collectors.toList()));
        CHECKS.holds("README.md shows calls", calls > 0);
        for (Method m : ColumnHouse.class.getMethods()) {
            if (m.getDeclaringClass() == ColumnHouse.class) {
                CHECKS.holds("README.md shows " + m.getName(), SHOWN.contains(m.getName()));
            }
        }
        CHECKS.holds("README.md says how the tests are run", readme.contains("\n.ci/run\n"));
        namesTests(readme);
        CHECKS.end();
    }

    private static void doCalls(List<String> lines) throws ReflectiveOperationException {
        boolean inJava = false;
        for (String line : lines) {
            if (line.startsWith("```")) {
                inJava = line.equals("```java");
            } else if (inJava && line.equals(NEW)) {
                x = new ColumnHouse();
                calls = 0;
            } else if (inJava) {
                doCall(line);
            } else {
                CHECKS.holds("a call stands among others, not here: " + line, !line.contains("x."));
            }
        }
    }

    private static void doCall(String line) throws ReflectiveOperationException {
        Matcher call = CALL.matcher(line);
        boolean isCall = call.matches() && x != null;
        CHECKS.holds("a call with its answer: " + line, isCall);
        if (!isCall) {
            return;
        }
        calls++;
        CHECKS.holds("an object's 512 calls are enough: " + line, calls <= MOST_CALLS);
        String name = call.group(1);
        String[] texts = call.group(2).isEmpty() ? new String[0] : call.group(2).split(", ");
        Method method = methodOf(name);
        CHECKS.holds("there is " + line, method != null && method.getParameterCount() == texts.length);
        if (method == null || method.getParameterCount() != texts.length) {
            return;
        }
        Object[] values = new Object[texts.length];
        for (int i = 0; i < texts.length; i++) {
            values[i] = valueOf(texts[i], method.getParameterTypes()[i]);
        }
        SHOWN.add(name);
        long got = ((Number) method.invoke(x, values)).longValue();
        CHECKS.due("README.md's " + line, got, Long.decode(call.group(3)));
        if (name.equals("feed")) {
            readsAs(line, values, call.group(4));
        }
    }

    private static Method methodOf(String name) {
        return Stream.of(ColumnHouse.class.getMethods())
                .filter(m -> m.getDeclaringClass() == ColumnHouse.class && m.getName().equals(name))
                .findFirst().orElse(null);
    }

    private static Object valueOf(String text, Class<?> type) {
        if (type == boolean.class) {
            return text.equals("true");
        }
        boolean marked = text.endsWith("L");
        long value = Long.decode(marked ? text.substring(0, text.length() - 1) : text);
        if (type == long.class) {
            CHECKS.holds(text + " is written as Java wants it", marked || value == (int) value);
            return value;
        }
        CHECKS.holds(text + " is an int", !marked && value == (int) value);
        return (int) value;
    }

    /** The bytes of a feed are those of the text that is told behind it, and zeros. */
    private static void readsAs(String line, Object[] words, String told) {
        StringBuilder text = new StringBuilder();
        for (Object word : words) {
            for (int shift = 24; shift >= 0; shift -= 8) {
                text.append((char) ((Integer) word >>> shift & 255));
            }
        }
        while (text.length() > 0 && text.charAt(text.length() - 1) == 0) {
            text.setLength(text.length() - 1);
        }
        CHECKS.holds("its bytes are the text: " + line, told != null && told.equals("\"" + text + "\""));
    }

    private static void namesTests(String readme) throws IOException {
        try (Stream<Path> files = Files.list(Path.of("src/test/java"))) {
            for (Path file : files.collect(Collectors.toList())) {
                String name = file.getFileName().toString().replace(".java", "");
                CHECKS.holds("README.md says what " + name + " is for", readme.contains("`" + name + "`"));
            }
        }
    }
}
