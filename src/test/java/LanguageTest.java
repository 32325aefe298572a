import java.io.IOException;
import java.lang.reflect.Constructor;
import java.lang.reflect.Field;
import java.lang.reflect.InvocationTargetException;
import java.lang.reflect.Method;
import java.nio.file.Files;
import java.nio.file.Path;
import java.util.HashSet;
import java.util.LinkedHashMap;
import java.util.Map;
import java.util.Set;
import java.util.TreeSet;
import java.util.regex.Matcher;
import java.util.regex.Pattern;

/** The rules 7, 8 and 11 of ../shared/LANGUAGE.md, so far as a test can look them up. */
public final class LanguageTest {
    private static final Path SOURCE = Path.of("src/main/java/ShadowFile.java");
    private static final int LINES = 60;
    private static final int PARAMETERS = 7;
    private static final int DEPTH = 8;
    private static final Pattern HEAD = Pattern.compile(
            "\n {4,8}(?:public |private |static |final )*[\\w\\[\\]]* ?(\\w+)\\(([\\w\\[\\], ]*)\\)"
            + "[\\w,\\s]*\\{\n");
    private static final Pattern CALL = Pattern.compile("(\\w+)\\(");

    // By name alone: methods of one name in several classes count as one that does what all do.
    private static final Map<String, Set<String>> CALLS = new LinkedHashMap<>();

    private LanguageTest() {
    }

    public static void main(String[] args) throws IOException, ReflectiveOperationException {
        methodsAreShort();
        callsAreShallow();
        aReadingOfTooManyEntriesThrowsNothing();
        Check.end("LanguageTest");
    }

    private static void methodsAreShort() throws IOException {
        String source = Files.readString(SOURCE);
        Matcher head = HEAD.matcher(source);
        while (head.find()) {
            String name = head.group(1);
            String body = bodyFrom(source, head.end());
            Check.yes(name + " is short", body.lines().count() <= LINES);
            Check.yes(name + " has few parameters", head.group(2).split(",").length <= PARAMETERS);
            Set<String> calls = CALLS.computeIfAbsent(name, any -> new TreeSet<>());
            Matcher call = CALL.matcher(body);
            while (call.find()) {
                calls.add(call.group(1));
            }
        }
        for (Method method : ShadowFile.class.getDeclaredMethods()) {
            Check.yes(method.getName() + " was found", CALLS.containsKey(method.getName()));
        }
    }

    /** The body ends where a line closes as many braces as were opened. */
    private static String bodyFrom(String source, int start) {
        int open = 1;
        int place = start;
        while (open > 0 && place < source.length()) {
            char sign = source.charAt(place);
            open += sign == '{' ? 1 : sign == '}' ? -1 : 0;
            place++;
        }
        return source.substring(start, place);
    }

    private static void callsAreShallow() {
        for (String name : CALLS.keySet()) {
            Check.yes(name + " calls at most eight deep", depthOf(name, new HashSet<>()) <= DEPTH);
        }
    }

    /** The number of the class's methods that stand open at once; far too many for a recursion. */
    private static int depthOf(String name, Set<String> open) {
        if (!open.add(name)) {
            return 2 * DEPTH;
        }
        int deepest = 0;
        for (String called : CALLS.getOrDefault(name, Set.of())) {
            deepest = Math.max(deepest, depthOf(called, open));
        }
        open.remove(name);
        return deepest + (CALLS.containsKey(name) ? 1 : 0);
    }

    /** No input has so many entries, but the row of keys must not depend on that. */
    private static void aReadingOfTooManyEntriesThrowsNothing() throws ReflectiveOperationException {
        for (Class<?> inside : ShadowFile.class.getDeclaredClasses()) {
            if (!inside.getSimpleName().equals("Input")) {
                continue;
            }
            Constructor<?> maker = inside.getDeclaredConstructor();
            maker.setAccessible(true);
            Object input = maker.newInstance();
            Field entries = inside.getDeclaredField("entries");
            entries.setAccessible(true);
            entries.setInt(input, 60);
            Method takeDigit = inside.getDeclaredMethod("takeDigit", int.class, int.class, int.class);
            takeDigit.setAccessible(true);
            String got = "nothing";
            try {
                takeDigit.invoke(input, 1, 0, 1);
            } catch (InvocationTargetException thrown) {
                got = thrown.getCause().getClass().getName();
            }
            Check.text("the 61st entry throws", got, "nothing");
            Check.same("the entries", entries.getInt(input), 60);
        }
    }
}
