import java.io.IOException;
import java.util.ArrayList;
import java.util.List;
import java.util.NoSuchElementException;

/** Counts answers that are not due, and names the promise that they break. */
final class Check {
    static final Class<?> INDEX = IndexOutOfBoundsException.class;
    static final Class<?> ARGUMENT = IllegalArgumentException.class;
    static final Class<?> STATE = IllegalStateException.class;
    static final Class<?> MISSING = NoSuchElementException.class;
    static final Class<?> UNSUPPORTED = UnsupportedOperationException.class;

    private static final List<List<String>> SENTENCES = new ArrayList<>();
    private static String place = "";
    private static int checksBeforeSentence = -1;
    private static int checks = 0;
    private static int wrong = 0;

    interface Call {
        Object answer();
    }

    private Check() {
    }

    static void promise(int number) {
        place = "promise " + number;
    }

    /** The checks that follow are the test of this sentence; 0 is the number of the Description. */
    static void sentence(int number, String sentence) {
        endOfSentence();
        while (SENTENCES.size() <= number) {
            SENTENCES.add(new ArrayList<>());
        }
        SENTENCES.get(number).add(sentence);
        place = (number == 0 ? "Description" : "promise " + number) + ", \"" + sentence + "\"";
        checksBeforeSentence = checks;
    }

    private static void endOfSentence() {
        if (checksBeforeSentence == checks) {
            wrong++;
            System.out.println(place + ": nothing is checked");
        }
    }

    static void same(String what, long got, long due) {
        text(what, Long.toString(got), Long.toString(due));
    }

    static void yes(String what, boolean got) {
        text(what, Boolean.toString(got), "true");
    }

    static void no(String what, boolean got) {
        text(what, Boolean.toString(got), "false");
    }

    static void text(String what, String got, String due) {
        checks++;
        if (!got.equals(due)) {
            wrong++;
            System.out.println(place + ": " + what + " answered " + behind(got, due)
                    + ", due is " + behind(due, got));
        }
    }

    /** A long text is told from shortly before the first sign in which it differs. */
    private static String behind(String text, String other) {
        int same = 0;
        while (same < text.length() && same < other.length()
                && text.charAt(same) == other.charAt(same)) {
            same++;
        }
        int first = Math.max(0, same - 40);
        String told = text.substring(first, Math.min(text.length(), same + 80));
        return (first > 0 ? ".. " : "") + told + (same + 80 < text.length() ? " .." : "");
    }

    /** The call throws exactly this class and changes nothing that can be seen. */
    static void fails(String what, ShadowFile file, Class<?> due, Call call) {
        String before = Help.state(file);
        failsOnly(what, due, call);
        text(what + ": the state behind the exception", Help.state(file), before);
    }

    /** The call throws exactly this class, whatever it changes. */
    static void failsOnly(String what, Class<?> due, Call call) {
        String got = "nothing";
        try {
            call.answer();
        } catch (RuntimeException thrown) {
            got = thrown.getClass().getName();
        }
        text(what + " throws", got, due.getName());
    }

    /** Every sentence from one promise to another has had its test, and stands in the document. */
    static void endOfSentences(String test, int first, int last) throws IOException {
        endOfSentence();
        checksBeforeSentence = -1;
        for (int number = first; number <= last; number++) {
            List<String> tested =
                    number < SENTENCES.size() ? SENTENCES.get(number) : new ArrayList<>();
            place = "promise " + number;
            String part = Document.part(number);
            for (String sentence : tested) {
                yes("the document says \"" + sentence + "\"", part.contains(sentence));
            }
            text("what has no test", Document.rest(number, tested), "");
        }
        end(test);
    }

    static void end(String test) {
        System.out.println(test + ": " + checks + " checks, " + wrong + " wrong");
        if (wrong != 0 || checks == 0) {
            System.exit(1);
        }
    }
}
