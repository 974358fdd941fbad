import java.io.IOException;
import java.lang.reflect.Constructor;
import java.lang.reflect.Field;
import java.lang.reflect.Method;
import java.lang.reflect.Modifier;
import java.nio.file.Files;
import java.nio.file.Path;
import java.util.Arrays;
import java.util.Set;
import java.util.TreeSet;
import java.util.regex.Matcher;
import java.util.regex.Pattern;

/** 'The public face': the members that stand there, and no other that can be seen from outside. */
public final class FaceTest {
    private static final Checks CHECKS = new Checks("FaceTest");
    private static final Pattern METHOD = Pattern.compile("public (int|long) (\\w+)\\((.*)\\);");
    private static final String[] FACE = {
        "public int table(int table, int rows);",
        "public int column(int table, int kind);",
        "public int put(int table, int column, int row, long v);",
        "public int box(int table, int column, int row, int sort, long v);",
        "public int item(int table, int column, int row, int i, int v);",
        "public int away(int table, int column, boolean away);",
        "public int copy(int table, int column, int i, int other, int to, int j, int n);",
        "public int feed(int a, int b, int c, int d, int e);",
        "public int ask(int n);",
        "public int fault(int what);",
        "public int held(int i);",
        "public int size(int table, int what);",
        "public int kind(int table, int column);",
        "public long cell(int table, int column, int row);",
        "public int sort(int table, int column, int row);",
        "public int number(int table, int column, int row, int i);",
        "public int credit();",
    };

    public static void main(String[] args) throws IOException {
        String source = Files.readString(Path.of("src/main/java/ColumnHouse.java"));
        theClass();
        theConstant();
        theConstructor();
        theMethods(source);
        theWholeFace();
        CHECKS.end();
    }

    private static void theClass() {
        CHECKS.says("public final class ColumnHouse {");
        int modifiers = ColumnHouse.class.getModifiers();
        CHECKS.holds("it is public and final", Modifier.isPublic(modifiers) && Modifier.isFinal(modifiers));
        CHECKS.holds("it stands in no package", ColumnHouse.class.getPackageName().isEmpty());
        CHECKS.holds("it is nothing's child", ColumnHouse.class.getSuperclass() == Object.class);
        CHECKS.due("it has promises of its own alone", ColumnHouse.class.getInterfaces().length, 0);
        CHECKS.due("no class inside is public", ColumnHouse.class.getClasses().length, 0);
        for (Class<?> inside : ColumnHouse.class.getDeclaredClasses()) {
            CHECKS.holds(inside + " is static", Modifier.isStatic(inside.getModifiers()));
        }
    }

    private static void theConstant() {
        CHECKS.says("public static final int NONE = -1;");
        CHECKS.due("NONE", ColumnHouse.NONE, -1);
        for (Field f : ColumnHouse.class.getDeclaredFields()) {
            boolean isNone = f.getName().equals("NONE") && f.getType() == int.class
                    && f.getModifiers() == (Modifier.PUBLIC | Modifier.STATIC | Modifier.FINAL);
            CHECKS.holds(f + " is private, or NONE", isNone || Modifier.isPrivate(f.getModifiers()));
        }
    }

    private static void theConstructor() {
        CHECKS.says("public ColumnHouse();");
        Constructor<?>[] all = ColumnHouse.class.getDeclaredConstructors();
        CHECKS.due("constructors", all.length, 1);
        CHECKS.holds("it is public, and takes nothing",
                Modifier.isPublic(all[0].getModifiers()) && all[0].getParameterCount() == 0);
    }

    private static void theMethods(String source) {
        Set<String> due = new TreeSet<>();
        for (String line : FACE) {
            CHECKS.says(line);
            CHECKS.holds("it stands so in the class", source.contains("\n    " + line.replace(";", " {") + "\n"));
            Matcher m = METHOD.matcher(line);
            CHECKS.holds("it can be read", m.matches());
            due.add(m.group(1) + " " + m.group(2) + "(" + m.group(3).replaceAll(" \\w+(,|$)", "$1") + ")");
        }
        Set<String> seen = new TreeSet<>();
        for (Method m : ColumnHouse.class.getDeclaredMethods()) {
            if (!Modifier.isPrivate(m.getModifiers())) {
                CHECKS.due(m + " is public and nothing more", m.getModifiers(), Modifier.PUBLIC);
                seen.add(shape(m));
            }
        }
        CHECKS.due("methods", seen.size(), FACE.length);
        CHECKS.holds("the methods are " + seen, seen.equals(due));
    }

    /** Nothing stands in the document's face that is not looked at here. */
    private static void theWholeFace() throws IOException {
        Path path = Path.of("../shared/DOC.md");
        if (!Files.isReadable(path)) {
            return;
        }
        String document = Files.readString(path);
        int from = document.indexOf("```java");
        int to = document.indexOf("```", from + 3);
        CHECKS.holds("the document has a face", from >= 0 && to > from);
        Set<String> lines = new TreeSet<>();
        for (String line : document.substring(from + 7, to).split("\n")) {
            lines.add(line.trim());
        }
        Set<String> known = new TreeSet<>(Arrays.asList(FACE));
        known.addAll(Arrays.asList("", "public final class ColumnHouse {", "public static final int NONE = -1;",
                "public ColumnHouse();", "}"));
        CHECKS.holds("the face is " + lines, lines.equals(known));
    }

    private static String shape(Method m) {
        StringBuilder shape = new StringBuilder(m.getReturnType() + " " + m.getName() + "(");
        for (int i = 0; i < m.getParameterCount(); i++) {
            shape.append(i == 0 ? "" : ", ").append(m.getParameterTypes()[i]);
        }
        return shape.append(")").toString();
    }
}
