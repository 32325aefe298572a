import java.io.IOException;
import java.lang.reflect.Field;
import java.lang.reflect.Method;
import java.lang.reflect.Modifier;
import java.nio.file.Files;
import java.nio.file.Path;
import java.util.Arrays;
import java.util.Set;
import java.util.TreeSet;

/** The public face of the document, and the rules of the language that can be looked up. */
public final class FaceTest {
    private static final String I = "IndexOutOfBoundsException";
    private static final String A = "IllegalArgumentException";
    private static final String S = "IllegalStateException";
    private static final String N = "NoSuchElementException";
    private static final String U = "UnsupportedOperationException";

    private static final String[] FACE = {
        "int format()", "int begin() " + S, "boolean put(int int int) " + I + " " + A + " " + S,
        "int remove(int int) " + I + " " + A + " " + S + " " + N,
        "int get(int int) " + I + " " + A + " " + S + " " + N, "int changes(int) " + I,
        "int slotState(int) " + I, "int mark(int) " + I + " " + S,
        "int goBack(int) " + I + " " + S + " " + N, "int ready(int) " + I + " " + S,
        "int abandon(int) " + I + " " + S, "int feed(char) " + S,
        "int readChanges(int) " + I + " " + S, "int writeChanges(int) " + I + " " + S,
        "int writeRecords() " + S, "char outputAt(int) " + I, "int blocksToWrite()",
        "int commit(int) " + A + " " + S + " " + U, "int reopen() " + S, "boolean isOpen()",
        "int commitNumber() " + S, "int size() " + S, "int value(int) " + S + " " + A + " " + N,
        "int keyAt(int) " + S + " " + I, "int sum(int int) " + S + " " + A,
        "int pageBlock(int) " + S + " " + I, "int freeCount() " + S,
        "int freeBlock(int) " + S + " " + I, "int wrongBlock() " + S, "int logSize()",
        "int logged(int int) " + I + " " + A, "int statistic(int) " + A, "int pin() " + S,
        "int pinnedValue(int int) " + I + " " + A + " " + S + " " + N,
        "int pinnedCommit(int) " + I + " " + S, "int unpin(int) " + I + " " + S,
        "int differences(int) " + I + " " + S,
        "int differentKey(int int) " + I + " " + S + " " + N, "int cell(int int) " + I,
        "int damage(int int int) " + I, "int checksum(int) " + I, "boolean isValid(int) " + I,
        "int salvage()", "int salvaged(int int) " + I + " " + A, "int adopt(int) " + I + " " + S,
    };

    private FaceTest() {
    }

    public static void main(String[] args) throws IOException {
        theMethodsAreThoseOfTheDocument();
        nothingElseCanBeSeen();
        theClassesAreSmall();
        theSourceKeepsToTheLanguage();
        Check.end("FaceTest");
    }

    private static String described(Method method) {
        StringBuilder text = new StringBuilder();
        text.append(method.getReturnType().getSimpleName()).append(' ').append(method.getName());
        text.append('(');
        for (Class<?> type : method.getParameterTypes()) {
            text.append(text.charAt(text.length() - 1) == '(' ? "" : " ");
            text.append(type.getSimpleName());
        }
        text.append(')');
        for (Class<?> type : method.getExceptionTypes()) {
            text.append(' ').append(type.getSimpleName());
        }
        return text.toString();
    }

    private static void theMethodsAreThoseOfTheDocument() {
        Set<String> got = new TreeSet<>();
        for (Method method : ShadowFile.class.getDeclaredMethods()) {
            if (Modifier.isPublic(method.getModifiers())) {
                got.add(described(method));
            }
        }
        Check.text("the face", got.toString(), new TreeSet<>(Arrays.asList(FACE)).toString());
    }

    private static void nothingElseCanBeSeen() {
        Check.same("constructors", ShadowFile.class.getDeclaredConstructors().length, 1);
        Check.yes("a public class", Modifier.isPublic(ShadowFile.class.getModifiers()));
        Check.yes("a final class", Modifier.isFinal(ShadowFile.class.getModifiers()));
        Set<String> names = new TreeSet<>();
        for (Method method : ShadowFile.class.getMethods()) {
            names.add(method.getName());
        }
        for (Method method : ShadowFile.class.getDeclaredMethods()) {
            int modifiers = method.getModifiers();
            Check.yes(method + " is public or private",
                    Modifier.isPublic(modifiers) || Modifier.isPrivate(modifiers));
            if (Modifier.isPrivate(modifiers)) {
                Check.no(method + " has a public name", names.contains(method.getName()));
            }
        }
        for (Field field : ShadowFile.class.getDeclaredFields()) {
            Check.yes(field + " is private", Modifier.isPrivate(field.getModifiers()));
        }
        for (Class<?> inside : ShadowFile.class.getDeclaredClasses()) {
            Check.yes(inside + " is static and private", Modifier.isStatic(inside.getModifiers())
                    && Modifier.isPrivate(inside.getModifiers()));
            for (Method method : inside.getDeclaredMethods()) {
                Check.no(method + " has a name of the face", names.contains(method.getName()));
            }
        }
    }

    /** Rule 11. */
    private static void theClassesAreSmall() {
        Check.yes("few classes", ShadowFile.class.getDeclaredClasses().length <= 12);
        for (Class<?> inside : ShadowFile.class.getDeclaredClasses()) {
            Check.yes(inside + " has few fields", fieldsOf(inside) <= 20);
        }
        Check.yes("few fields", fieldsOf(ShadowFile.class) <= 20);
    }

    private static int fieldsOf(Class<?> owner) {
        int fields = 0;
        for (Field field : owner.getDeclaredFields()) {
            fields += Modifier.isStatic(field.getModifiers()) ? 0 : 1;
        }
        return fields;
    }

    private static void theSourceKeepsToTheLanguage() throws IOException {
        String source = Files.readString(Path.of("src/main/java/ShadowFile.java"));
        String[] banned = {
            "package ", "->", "::", "catch", "finally", "synchronized", "assert", "while (true)",
            "String.format", "Exact(", "Random", "System.out", "currentTime", "nanoTime", "Thread",
            "Iterator", "Object ", "protected ", "Math.random", "java.io", "java.nio", "Long.SIZE",
        };
        for (String word : banned) {
            Check.no("the source has " + word, source.contains(word));
        }
        for (String line : source.split("\n")) {
            if (line.startsWith("import ")) {
                Check.yes(line + " is allowed", line.equals("import java.util.Arrays;")
                        || line.equals("import java.util.NoSuchElementException;"));
            }
            boolean made = line.contains("new ") && !line.contains("throw new ");
            boolean inField = line.matches(" *(private )?final .* = new .*;");
            boolean inRow = line.matches(" *[a-z]+\\[[a-z]+\\] = new [A-Z][a-z]+\\(\\);");
            Check.yes("objects are made in constructors alone: " + line.trim(),
                    !made || inField || inRow || isText(line));
        }
    }

    private static boolean isText(String line) {
        return line.trim().startsWith("*") || line.trim().startsWith("/");
    }
}
