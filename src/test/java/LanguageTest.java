import java.io.IOException;
import java.lang.reflect.Method;
import java.lang.reflect.Modifier;
import java.nio.file.Files;
import java.nio.file.Path;
import java.util.Arrays;
import java.util.Set;
import java.util.TreeSet;
import java.util.regex.Matcher;
import java.util.regex.Pattern;

/** What of ../shared/LANGUAGE.md can be seen without running: words, the face, parameters, classes. */
public final class LanguageTest {
    private static final Checks CHECKS = new Checks("LanguageTest");
    private static final String FORBIDDEN = "\\b(throw|throws|try|catch|finally|synchronized|assert|volatile|"
            + "native|transient|double|float|Double|Float|Object|Thread|Random|protected|package)\\b|->|::|@";
    private static final Set<String> IMPORTS = Set.of("java.util.Arrays", "java.util.ArrayList", "java.util.List");

    public static void main(String[] args) throws IOException {
        String code = withoutComments(Files.readString(Path.of("src/main/java/ColumnHouse.java")));
        words(code);
        face();
        nested();
        CHECKS.end();
    }

    private static String withoutComments(String source) {
        return source.replaceAll("(?s)/\\*.*?\\*/", "").replaceAll("//[^\n]*", "")
                .replaceAll("\"[^\"\n]*\"", "\"\"");
    }

    private static void words(String code) {
        Matcher m = Pattern.compile(FORBIDDEN).matcher(code);
        while (m.find()) {
            CHECKS.holds("no " + m.group(), false);
        }
        Matcher imports = Pattern.compile("import ([\\w.*]+);").matcher(code);
        while (imports.find()) {
            CHECKS.holds("import " + imports.group(1), IMPORTS.contains(imports.group(1)));
        }
        CHECKS.holds("no text is joined by +", !code.contains("\"\" +") && !code.contains("+ \"\""));
        CHECKS.holds("no array of three dimensions", !code.contains("][]["));
        Matcher library = Pattern.compile("\\b(Math|Long|Integer|Arrays|System)\\.(\\w+)\\(").matcher(code);
        Set<String> allowed = Set.of("max", "min", "abs", "compare", "bitCount", "copyOf", "fill", "arraycopy");
        while (library.find()) {
            CHECKS.holds("library " + library.group(), allowed.contains(library.group(2)));
        }
    }

    private static void face() {
        Set<String> names = new TreeSet<>(Arrays.asList("table", "column", "put", "box", "item", "away", "copy",
                "feed", "ask", "fault", "held", "size", "kind", "cell", "sort", "number", "credit"));
        CHECKS.holds("final", Modifier.isFinal(ColumnHouse.class.getModifiers()));
        int shown = 0;
        for (Method m : ColumnHouse.class.getDeclaredMethods()) {
            boolean isPublic = Modifier.isPublic(m.getModifiers());
            CHECKS.holds(m + " is public or private", isPublic || Modifier.isPrivate(m.getModifiers()));
            CHECKS.due(m + " is of the face", names.contains(m.getName()) ? 1 : 0, isPublic ? 1 : 0);
            shown += isPublic ? 1 : 0;
        }
        CHECKS.due("methods of the face", shown, 17);
        for (var f : ColumnHouse.class.getDeclaredFields()) {
            CHECKS.holds(f + " is private", Modifier.isPrivate(f.getModifiers()) || f.getName().equals("NONE"));
            CHECKS.holds(f + " is final if static",
                    !Modifier.isStatic(f.getModifiers()) || Modifier.isFinal(f.getModifiers()));
        }
        for (Class<?> c : ColumnHouse.class.getDeclaredClasses()) {
            for (Method m : c.getDeclaredMethods()) {
                CHECKS.holds(m + " has no name of the face", !names.contains(m.getName()));
                CHECKS.holds(m + " is not public", !Modifier.isPublic(m.getModifiers()));
            }
        }
    }

    private static void nested() {
        Class<?>[] classes = ColumnHouse.class.getDeclaredClasses();
        CHECKS.holds("at most twelve classes", classes.length + 1 <= 12);
        for (Class<?> c : classes) {
            CHECKS.holds(c + " is static", Modifier.isStatic(c.getModifiers()));
            int fields = 0;
            for (var f : c.getDeclaredFields()) {
                boolean isStatic = Modifier.isStatic(f.getModifiers());
                fields += isStatic ? 0 : 1;
                CHECKS.holds(f + " is final if static", !isStatic || Modifier.isFinal(f.getModifiers()));
            }
            CHECKS.holds(c + " has at most twenty fields", fields <= 20);
            for (Method m : c.getDeclaredMethods()) {
                CHECKS.holds(m + " has at most seven parameters", m.getParameterCount() <= 7);
            }
        }
    }
}
