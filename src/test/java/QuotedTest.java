import java.io.IOException;
import java.nio.file.Files;
import java.nio.file.Path;
import java.util.ArrayList;
import java.util.Arrays;
import java.util.List;
import java.util.stream.Collectors;
import java.util.stream.Stream;

/** Every sentence of the document, from its first line to 'Not promised', is quoted by a test that holds it. */
public final class QuotedTest {
    private static final Checks CHECKS = new Checks("QuotedTest");
    private static final String SAYS = "CHECKS.says(";

    public static void main(String[] args) throws IOException {
        Path path = Path.of("../shared/DOC.md");
        CHECKS.holds("the tests quote the document", quotations().size() > 100);
        if (Files.isReadable(path)) {
            everySentence(Files.readString(path));
        }
        CHECKS.end();
    }

    private static void everySentence(String document) throws IOException {
        int end = document.indexOf("## Not promised");
        CHECKS.holds("the document ends with what is not promised", end > 0);
        String text = end > 0 ? document.substring(0, end) : document;
        boolean[] quoted = new boolean[text.length()];
        for (String quotation : quotations()) {
            for (int at = text.indexOf(quotation); at >= 0; at = text.indexOf(quotation, at + 1)) {
                Arrays.fill(quoted, at, at + quotation.length(), true);
            }
        }
        boolean inFace = false;
        int at = 0;
        for (String line : text.split("\n", -1)) {
            inFace = line.equals("```java") || inFace && !line.startsWith("```");
            if (!inFace && !line.startsWith("#") && !line.startsWith("```")) {
                everyWord(text, quoted, at + labelOf(line), at + line.length());
            }
            at += line.length() + 1;
        }
    }

    /** How long what stands ahead of a line's first sentence is: PART 1. and the like, or a promise's method. */
    private static int labelOf(String line) {
        if (line.startsWith("PART ")) {
            return line.indexOf('.') + 1;
        }
        return line.startsWith("`") ? line.indexOf("`: ") + 2 : 0;
    }

    private static void everyWord(String text, boolean[] quoted, int from, int to) {
        StringBuilder left = new StringBuilder();
        for (int at = from; at < to; at++) {
            left.append(quoted[at] ? '\n' : text.charAt(at));
        }
        for (String stretch : left.toString().split("\n+")) {
            CHECKS.holds("a test quotes: " + stretch, stretch.chars().noneMatch(Character::isLetterOrDigit));
        }
    }

    /** What the tests quote: the texts that says() is called with. */
    private static List<String> quotations() throws IOException {
        List<String> found = new ArrayList<>();
        try (Stream<Path> files = Files.list(Path.of("src/test/java"))) {
            for (Path file : files.collect(Collectors.toList())) {
                String source = Files.readString(file);
                for (int at = source.indexOf(SAYS); at >= 0; at = source.indexOf(SAYS, at + 1)) {
                    readTexts(source, at + SAYS.length(), found);
                }
            }
        }
        return found;
    }

    /** Texts that are joined by + are one; a comma parts two; the bracket behind them ends the call. */
    private static void readTexts(String source, int from, List<String> found) {
        StringBuilder text = new StringBuilder();
        boolean inside = false;
        for (int at = from; at < source.length(); at++) {
            char c = source.charAt(at);
            if (inside && c == '\\') {
                at++;
                text.append(source.charAt(at));
            } else if (c == '"') {
                inside = !inside;
            } else if (inside) {
                text.append(c);
            } else if (c == ',' || c == ')') {
                if (text.length() > 0) {
                    found.add(text.toString());
                }
                text.setLength(0);
                if (c == ')') {
                    return;
                }
            }
        }
    }
}
