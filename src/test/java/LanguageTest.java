import java.io.IOException;
import java.lang.reflect.Constructor;
import java.lang.reflect.Field;
import java.lang.reflect.Method;
import java.lang.reflect.Modifier;
import java.nio.file.Files;
import java.nio.file.Path;
import java.util.ArrayList;
import java.util.List;
import java.util.Set;
import java.util.regex.Matcher;
import java.util.regex.Pattern;

/** What ../shared/LANGUAGE.md forbids and a look at the class and its text can find. */
public final class LanguageTest {
    private static final Path SOURCE = Path.of("src", "main", "java", "GroupTables.java");
    private static final List<String> FORBIDDEN = List.of(
            "import ", "package ", "->", "::", "finally", "synchronized", "assert ", "catch",
            "Exact", "static {", "volatile", "native ", "java.", "System.", "Object", "float",
            "double", "while (true)", "for (;;)", "@", "hashCode", "toString", "equals");

    private static final Set<String> LIBRARY_CALLS = Set.of("Math.min", "Math.max");
    private static final Set<String> EXCEPTIONS = Set.of(Check.INDEX, Check.ARGUMENT, Check.STATE);
    private static final int MOST_CLASSES = 12;
    private static final int MOST_FIELDS = 20;
    private static final int MOST_PARAMETERS = 7;

    private LanguageTest() {
    }

    public static void main(String[] args) throws IOException {
        String text = Files.readString(SOURCE);
        for (int at = 0; at < text.length(); at++) {
            char sign = text.charAt(at);
            if (sign != '\n' && (sign < 32 || sign > 126)) {
                Check.due("sign " + (int) sign + " at " + at, sign, ' ');
            }
        }
        String code = text.replaceAll("(?s)/\\*.*?\\*/", " ").replaceAll("//[^\n]*", " ")
                .replaceAll("\"[^\"]*\"", "text");
        for (String word : FORBIDDEN) {
            Check.due("has " + word, code.contains(word), false);
        }
        longMethods(code.split("\n", -1));
        libraryCalls(code);
        thrown(code);
        List<Class<?>> classes = new ArrayList<>(List.of(GroupTables.class.getDeclaredClasses()));
        classes.add(GroupTables.class);
        Check.due("at most " + MOST_CLASSES + " classes", classes.size() <= MOST_CLASSES, true);
        for (Class<?> each : classes) {
            fields(each);
            methods(each);
        }
        Check.end("LanguageTest");
    }

    /** Rule 4: of the library only what it names. */
    private static void libraryCalls(String code) {
        Matcher call = Pattern.compile("\\b([A-Z]\\w*[a-z]\\w*\\.\\w+)").matcher(code);
        while (call.find()) {
            Check.due("rule 4: calls " + call.group(1), LIBRARY_CALLS.contains(call.group(1)), true);
        }
    }

    /** Rule 6: what is thrown is new, bears a written text, and the document names it. */
    private static void thrown(String code) {
        Matcher thrown = Pattern.compile("\\bthrow\\b([^;]*);").matcher(code);
        while (thrown.find()) {
            String what = thrown.group(1).strip();
            String name = what.replace("new ", "").replace("(text)", "");
            Check.due("rule 6: throws " + what, what.equals("new " + name + "(text)"), true);
            Check.due("rule 6: throws " + name, EXCEPTIONS.contains(name), true);
        }
    }

    /** Rules 3, 5 and 11: the types of the fields, final if static, and not too many. */
    private static void fields(Class<?> each) {
        int own = 0;
        for (Field field : each.getDeclaredFields()) {
            Class<?> type = field.getType();
            if (Modifier.isStatic(field.getModifiers())) {
                Check.due("rule 5: " + field, Modifier.isFinal(field.getModifiers()), true);
                Check.due("rule 5: " + field, type == int.class || type == int[].class, true);
            } else {
                own++;
                Class<?> part = type.isArray() ? type.getComponentType() : type;
                boolean numbers = type == int.class || type == int[].class || type == int[][].class;
                Check.due("rule 3: " + field, numbers || part.getNestHost() == GroupTables.class,
                        true);
            }
        }
        Check.due("rule 11: fields of " + each, own <= MOST_FIELDS, true);
    }

    /** Rules 1 and 11: no hidden method bears the name of an open one; not too many parameters. */
    private static void methods(Class<?> each) {
        for (Method method : each.getDeclaredMethods()) {
            Check.due("rule 11: parameters of " + method,
                    method.getParameterCount() <= MOST_PARAMETERS, true);
            Check.due("rule 1: name of " + method,
                    each == GroupTables.class || !isOpenName(method.getName()), true);
        }
        for (Constructor<?> constructor : each.getDeclaredConstructors()) {
            Check.due("rule 11: parameters of " + constructor,
                    constructor.getParameterCount() <= MOST_PARAMETERS, true);
        }
    }

    private static boolean isOpenName(String name) {
        for (Method method : GroupTables.class.getDeclaredMethods()) {
            if (Modifier.isPublic(method.getModifiers()) && method.getName().equals(name)) {
                return true;
            }
        }
        return false;
    }

    /** Methods stay below some sixty lines, from the line that ends a head to the last brace. */
    private static void longMethods(String[] lines) {
        int start = -1;
        String indent = "";
        for (int line = 0; line < lines.length; line++) {
            String text = lines[line];
            String before = text.substring(0, text.length() - text.stripLeading().length());
            if (start < 0 && text.matches("( {4}| {8})\\S.*\\)[^;=]*(\\{)?")) {
                start = line;
                indent = before;
            } else if (start >= 0 && text.equals(indent + "}")) {
                Check.due("lines of the method at " + (start + 1), line - start < 60, true);
                start = -1;
            }
        }
    }
}
