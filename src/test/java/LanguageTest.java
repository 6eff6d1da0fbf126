import java.io.IOException;
import java.nio.file.Files;
import java.nio.file.Path;
import java.util.List;

/** What ../shared/LANGUAGE.md forbids and a look at the text of the class can find. */
public final class LanguageTest {
    private static final Path SOURCE = Path.of("src", "main", "java", "GroupTables.java");
    private static final List<String> FORBIDDEN = List.of(
            "import ", "package ", "->", "::", "finally", "synchronized", "assert ", "catch",
            "Exact", "static {", "volatile", "native ", "java.", "System.", "Object", "float",
            "double", "while (true)", "for (;;)", "@", "hashCode", "toString", "equals");

    private LanguageTest() {
    }

    public static void main(String[] args) throws IOException {
        String text = Files.readString(SOURCE);
        for (int at = 0; at < text.length(); at++) {
            char sign = text.charAt(at);
            if (sign != '\n' && (sign < 32 || sign > 126)) {
                Check.due("sign " + (int) sign + " at " + at, sign, ' ');
            }
        }
        String code = text.replaceAll("(?s)/\\*.*?\\*/", " ").replaceAll("//[^\n]*", " ")
                .replaceAll("\"[^\"]*\"", "text");
        for (String word : FORBIDDEN) {
            Check.due("has " + word, code.contains(word), false);
        }
        longMethods(code.split("\n", -1));
        Check.end("LanguageTest");
    }

    /** Methods stay below some sixty lines, from the line that ends a head to the last brace. */
    private static void longMethods(String[] lines) {
        int start = -1;
        String indent = "";
        for (int line = 0; line < lines.length; line++) {
            String text = lines[line];
            String before = text.substring(0, text.length() - text.stripLeading().length());
            if (start < 0 && text.matches("( {4}| {8})\\S.*\\)[^;=]*(\\{)?")) {
                start = line;
                indent = before;
            } else if (start >= 0 && text.equals(indent + "}")) {
                Check.due("lines of the method at " + (start + 1), line - start < 60, true);
                start = -1;
            }
        }
    }
}
