import java.io.IOException;
import java.lang.reflect.Constructor;
import java.lang.reflect.Field;
import java.lang.reflect.Method;
import java.lang.reflect.Modifier;
import java.nio.file.Files;
import java.nio.file.Path;
import java.util.List;
import java.util.Set;
import java.util.TreeSet;

/**
 * The class has the face of the document, and no more (rule 1 of LANGUAGE.md), with the headings of
 * the Terms.
 */
public final class FaceTest {
    private static final String[] FACE = {
        "int addGroup(int) IllegalArgumentException IllegalStateException",
        "int setResult(int,int,int,int) IndexOutOfBoundsException IllegalArgumentException",
        "int strike(int,int) IndexOutOfBoundsException IllegalArgumentException"
            + " IllegalStateException",
        "int takeAway(int,int) IndexOutOfBoundsException IllegalArgumentException",
        "int setCards(int,int) IndexOutOfBoundsException IllegalArgumentException",
        "int setLot(int,int) IndexOutOfBoundsException IllegalArgumentException",
        "void setThrough(int,int) IllegalArgumentException",
        "int groups()",
        "int teams()",
        "int groupOf(int) IndexOutOfBoundsException",
        "int played(int) IndexOutOfBoundsException",
        "int points(int) IndexOutOfBoundsException",
        "int difference(int) IndexOutOfBoundsException",
        "int goals(int) IndexOutOfBoundsException",
        "int place(int) IndexOutOfBoundsException",
        "int teamAt(int,int) IndexOutOfBoundsException",
        "int rule(int,int) IndexOutOfBoundsException IllegalArgumentException",
        "int matchesLeft(int) IndexOutOfBoundsException",
        "int thirdPoints(int) IndexOutOfBoundsException",
        "int thirdRank(int) IndexOutOfBoundsException",
        "boolean isThrough(int) IndexOutOfBoundsException",
        "int ways(int) IndexOutOfBoundsException",
        "int waysSafe(int) IndexOutOfBoundsException",
        "int waysLost(int) IndexOutOfBoundsException",
        "int badWay(int) IndexOutOfBoundsException",
        "int scoresThrough(int) IndexOutOfBoundsException IllegalStateException",
    };

    /** What the interface says ahead of some calls, and the first of these. */
    private static final String[][] HEADINGS = {
        {"---- groups, results, rules", "addGroup"},
        {"---- teams; nothing from here on changes anything", "groups"},
        {"---- tables", "place"},
        {"---- ways", "ways"},
    };

    private FaceTest() {
    }

    public static void main(String[] args) throws IOException {
        Class<?> face = GroupTables.class;
        Check.due("public and final", face.getModifiers(), Modifier.PUBLIC | Modifier.FINAL);
        Constructor<?>[] constructors = face.getDeclaredConstructors();
        Check.due("constructors", constructors.length, 1);
        Check.due("constructor", constructors[0].toString(), "public GroupTables()");
        Check.due("methods", openMethods(face).toString(), new TreeSet<>(Set.of(FACE)).toString());
        for (Field field : face.getDeclaredFields()) {
            Check.due(field.toString(), Modifier.isPrivate(field.getModifiers()), true);
            if (Modifier.isStatic(field.getModifiers())) {
                Check.due(field + " is final", Modifier.isFinal(field.getModifiers()), true);
            }
        }
        for (Class<?> inside : face.getDeclaredClasses()) {
            int set = inside.getModifiers();
            Check.due(inside + " is static", Modifier.isStatic(set), true);
            Check.due(inside + " is not open", Modifier.isPublic(set) || Modifier.isProtected(set),
                    false);
        }
        facesOfDocument();
        headings();
        Check.end("FaceTest");
    }

    /** The heads stand in the source as the document has them, in its order, with their names. */
    private static void facesOfDocument() throws IOException {
        String document = Files.readString(Path.of("..", "shared", "DOC.md"));
        int start = document.indexOf("public final class GroupTables {");
        Check.due("the document has a face", start > 0, true);
        List<String> lines = document.substring(start, document.indexOf("```", start)).lines()
                .map(String::strip).filter(line -> line.endsWith(";")).toList();
        Check.due("calls of the document", lines.size(), FACE.length + 1);
        String source = source();
        int from = 0;
        for (String line : lines) {
            int at = source.indexOf(line.replace(";", " {"), from);
            Check.due("'" + line + "' stands behind those before", at >= from, true);
            from = Math.max(from, at);
        }
    }

    private static void headings() throws IOException {
        String source = source();
        for (String[] heading : HEADINGS) {
            String wanted = "// " + heading[0] + " public [a-z]+ " + heading[1] + "\\(.*";
            int at = source.indexOf("// " + heading[0] + " ");
            Check.due("heading " + heading[0], at >= 0, true);
            Check.due(heading[0] + " stands ahead of " + heading[1],
                    source.substring(Math.max(0, at)).matches(wanted), true);
        }
    }

    /** The source, all on one line. */
    private static String source() throws IOException {
        Path file = Path.of("src", "main", "java", "GroupTables.java");
        return Files.readString(file).replaceAll("\\s+", " ");
    }

    /** The methods that are not private, and a private one that bears the name of a public one. */
    private static Set<String> openMethods(Class<?> face) {
        Set<String> open = new TreeSet<>();
        Set<String> names = new TreeSet<>();
        for (Method method : face.getMethods()) {
            if (method.getDeclaringClass() == face) {
                names.add(method.getName());
            }
        }
        for (Method method : face.getDeclaredMethods()) {
            boolean isPrivate = Modifier.isPrivate(method.getModifiers());
            if (!method.isSynthetic() && (!isPrivate || names.contains(method.getName()))) {
                open.add((isPrivate ? "private " : "") + text(method));
            }
        }
        return open;
    }

    private static String text(Method method) {
        StringBuilder text = new StringBuilder();
        text.append(method.getReturnType()).append(' ').append(method.getName()).append('(');
        String gap = "";
        for (Class<?> type : method.getParameterTypes()) {
            text.append(gap).append(type);
            gap = ",";
        }
        text.append(')');
        for (Class<?> thrown : method.getExceptionTypes()) {
            text.append(' ').append(thrown.getSimpleName());
        }
        return text.toString();
    }
}
