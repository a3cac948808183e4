import java.util.Objects;
import java.util.stream.Collectors;

/** Compares answers with what is due, tells the line of each wrong one, and counts them. */
final class Expect {
    static final Class<? extends RuntimeException> INDEX = IndexOutOfBoundsException.class;
    static final Class<? extends RuntimeException> ARGUMENT = IllegalArgumentException.class;
    static final Class<? extends RuntimeException> STATE = IllegalStateException.class;
    static final Class<? extends RuntimeException> UNSUPPORTED = UnsupportedOperationException.class;
    static final Class<? extends RuntimeException> ELEMENT = java.util.NoSuchElementException.class;
    static final Class<? extends RuntimeException> ARITHMETIC = ArithmeticException.class;

    interface Call {
        Object make();
    }

    private static int compared;
    private static int wrong;

    private Expect() {
    }

    static void same(Object due, Object got) {
        compared++;
        if (!Objects.equals(due, got)) {
            wrong++;
            System.out.println(place() + ": answered " + got + ", due is " + due);
        }
    }

    static void thrown(Class<? extends RuntimeException> due, Call call) {
        compared++;
        String got;
        try {
            got = "answered " + call.make();
        } catch (RuntimeException e) {
            if (e.getClass() == due) {
                return;
            }
            got = "threw " + e;
        }
        wrong++;
        System.out.println(place() + ": " + got + ", due is " + due.getName());
    }

    private static String place() {
        return StackWalker.getInstance().walk(frames -> frames
                .filter(frame -> !frame.getClassName().startsWith("Expect")).limit(4)
                .map(frame -> frame.getFileName() + ":" + frame.getLineNumber())
                .collect(Collectors.joining(" < ")));
    }

    /** To be called last; the exit code is 1 if an answer was wrong. */
    static void finish() {
        System.out.println(compared + " answers compared, " + wrong + " wrong");
        if (wrong != 0) {
            System.exit(1);
        }
    }
}
