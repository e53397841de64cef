import java.io.IOException;
import java.lang.reflect.Constructor;
import java.lang.reflect.Field;
import java.lang.reflect.Method;
import java.lang.reflect.Modifier;
import java.nio.file.Files;
import java.nio.file.Path;
import java.util.Arrays;
import java.util.HashSet;
import java.util.Set;
import java.util.TreeSet;
import java.util.stream.Collectors;

/** The public face, member by member, and the words that LANGUAGE.md leaves out. */
public final class FaceTest {

    private static final Checks c = new Checks();
    private static final String X = "IndexOutOfBoundsException";
    private static final String A = "IllegalArgumentException";
    private static final String S = "IllegalStateException";
    private static final String E = "NoSuchElementException";

    public static void main(String[] args) throws IOException {
        c.begin("the public face");
        c.due(methodsDue().toString(), methods().toString());
        c.due(new TreeSet<>(Set.of("NONE", "SYNTAX_ERROR", "VALUE_ERROR", "TOO_MANY")).toString(), fields().toString());
        Constructor<?>[] constructors = QuotaTree.class.getDeclaredConstructors();
        c.due(1, constructors.length);
        c.due("public QuotaTree()", constructors[0].toString());
        c.due("public final class QuotaTree", Modifier.toString(QuotaTree.class.getModifiers()) + " class QuotaTree");
        c.begin("LANGUAGE.md");
        c.due("[]", namesTwice().toString());
        words(Files.readString(Path.of("src/main/java/QuotaTree.java")));
        c.close("FaceTest");
    }

    private static Set<String> methods() {
        Set<String> methods = new TreeSet<>();
        for (Method method : QuotaTree.class.getDeclaredMethods()) {
            if (!Modifier.isPrivate(method.getModifiers())) {
                methods.add(Modifier.toString(method.getModifiers()) + " " + method.getReturnType() + " " + method.getName()
                        + names(method.getParameterTypes()) + names(method.getExceptionTypes()));
            }
        }
        return methods;
    }

    private static String names(Class<?>[] types) {
        return Arrays.stream(types).map(Class::getSimpleName).collect(Collectors.joining(", ", "(", ")"));
    }

    private static Set<String> fields() {
        Set<String> fields = new TreeSet<>();
        for (Field field : QuotaTree.class.getDeclaredFields()) {
            if (!Modifier.isPrivate(field.getModifiers())) {
                fields.add(field.getName());
                c.due("public static final int", Modifier.toString(field.getModifiers()) + " " + field.getType());
            }
        }
        return fields;
    }

    private static Set<String> methodsDue() {
        Set<String> due = new TreeSet<>();
        face(due, "append(int, int, int, int, int)", S);
        face(due, "load(int)", A);
        face(due, "errorPosition()");
        face(due, "count(int)", A);
        face(due, "find(long)");
        face(due, "folder(int, int)", X, A);
        face(due, "walked(int)", X);
        face(due, "heaviest(int)", X, E);
        face(due, "addFolder(int, long)", X, A, S);
        face(due, "removeFolder(int)", X, S);
        face(due, "tagReason(int, int)", X, A);
        face(due, "tag(int, int)", X, A, S);
        face(due, "moveReason(int, int)", X);
        face(due, "moveFolder(int, int)", X, S);
        face(due, "file(int, int)", X, A);
        face(due, "writeReason(int, int)", X, A);
        face(due, "write(int, int)", X, A, S);
        face(due, "room(int)", X);
        face(due, "resize(int, int)", X, A, S);
        face(due, "delete(int)", X);
        face(due, "moveFile(int, int)", X, S);
        face(due, "greatest(int)", A, E);
        face(due, "used(int, int)", A);
        face(due, "counted(int, int)", A);
        face(due, "limit(int, int, boolean)", A);
        face(due, "setLimit(int, int, int, int)", A, S);
        face(due, "state(int, int)", A);
        face(due, "graceLeft(int, int)", A);
        face(due, "setGrace(int)", A);
        face(due, "tick(int)", A, S);
        face(due, "nextEvent()");
        due.add("public float share(int, int)(" + A + ", " + E + ")");
        face(due, "gift(int, int, int, int)", A, S);
        face(due, "giftOf(int, int)", X, A);
        face(due, "endGift(int)", X);
        face(due, "adjust(int, int, int)", A, S);
        face(due, "repair()");
        face(due, "writePath(int)", X);
        face(due, "writeAccounts(int)", A);
        face(due, "writtenByte(int)", X);
        face(due, "undo()", S);
        return due;
    }

    private static void face(Set<String> due, String method, String... thrown) {
        due.add("public int " + method + "(" + String.join(", ", thrown) + ")");
    }

    /** Private methods, and those of the classes inside, that bear the name of a public one. */
    private static Set<String> namesTwice() {
        Set<String> open = new HashSet<>();
        Set<String> hidden = new TreeSet<>();
        for (Method method : QuotaTree.class.getDeclaredMethods()) {
            (Modifier.isPublic(method.getModifiers()) ? open : hidden).add(method.getName());
        }
        for (Class<?> inside : QuotaTree.class.getDeclaredClasses()) {
            for (Method method : inside.getDeclaredMethods()) {
                hidden.add(method.getName());
            }
        }
        hidden.retainAll(open);
        return hidden;
    }

    private static void words(String source) {
        String code = source.replaceAll("(?s)/\\*.*?\\*/", "").replaceAll("//[^\n]*", "");
        for (String word : new String[] {"->", "::", "\\bcatch\\b", "\\btry\\b", "\\bfinally\\b", "\\bassert\\b",
            "\\bsynchronized\\b", "\\bpackage\\b", "\\bMath\\.\\w+Exact\\b", "\\bSystem\\.(?!arraycopy\\b)",
            "\\bstatic \\{", "\\bthis\\)", "\\bwhile \\(true\\)", "\" \\+|\\+ \"", "\\bObjects?\\b", "\\bvar\\b"}) {
            c.due(word + ": false", word + ": " + java.util.regex.Pattern.compile(word).matcher(code).find());
        }
        c.due("import java.util.NoSuchElementException;", code.lines().filter(line -> line.startsWith("import"))
                .collect(Collectors.joining(" ")));
        for (int i = 0; i < source.length(); i++) {
            if (source.charAt(i) > 126) {
                c.due("only signs up to 126", "another at " + i);
                break;
            }
        }
    }
}
