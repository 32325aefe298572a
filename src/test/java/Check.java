import java.util.NoSuchElementException;

/** Counts answers that are not due, and names the promise that they break. */
final class Check {
    static final Class<?> INDEX = IndexOutOfBoundsException.class;
    static final Class<?> ARGUMENT = IllegalArgumentException.class;
    static final Class<?> STATE = IllegalStateException.class;
    static final Class<?> MISSING = NoSuchElementException.class;
    static final Class<?> UNSUPPORTED = UnsupportedOperationException.class;

    private static int promise = 0;
    private static int checks = 0;
    private static int wrong = 0;

    interface Call {
        Object answer();
    }

    private Check() {
    }

    static void promise(int number) {
        promise = number;
    }

    static void same(String what, long got, long due) {
        text(what, Long.toString(got), Long.toString(due));
    }

    static void yes(String what, boolean got) {
        text(what, Boolean.toString(got), "true");
    }

    static void no(String what, boolean got) {
        text(what, Boolean.toString(got), "false");
    }

    static void text(String what, String got, String due) {
        checks++;
        if (!got.equals(due)) {
            wrong++;
            System.out.println("promise " + promise + ": " + what + " answered " + got
                    + ", due is " + due);
        }
    }

    /** The call throws exactly this class and changes nothing that can be seen. */
    static void fails(String what, ShadowFile file, Class<?> due, Call call) {
        String before = Help.state(file);
        failsOnly(what, due, call);
        text(what + ": the state behind the exception", Help.state(file), before);
    }

    /** The call throws exactly this class, whatever it changes. */
    static void failsOnly(String what, Class<?> due, Call call) {
        String got = "nothing";
        try {
            call.answer();
        } catch (RuntimeException thrown) {
            got = thrown.getClass().getName();
        }
        text(what + " throws", got, due.getName());
    }

    static void end(String test) {
        System.out.println(test + ": " + checks + " checks, " + wrong + " wrong");
        if (wrong != 0 || checks == 0) {
            System.exit(1);
        }
    }
}
