import java.util.Objects;

/** Counts the answers that are not as due, and tells them. */
final class Check {
    static final String ARGUMENT = "throws.IllegalArgumentException";
    static final String INDEX = "throws.IndexOutOfBoundsException";
    static final String STATE = "throws.IllegalStateException";
    static final String UNSUPPORTED = "throws.UnsupportedOperationException";
    static final String NO_ELEMENT = "throws.NoSuchElementException";

    interface Call {
        Object run();
    }

    private final String name;
    private int checks = 0;
    private int wrong = 0;

    Check(String name) {
        this.name = name;
    }

    void due(String what, Object got, Object want) {
        checks++;
        if (!Objects.equals(got, want)) {
            wrong++;
            System.out.println(name + ": " + what + ": answered " + got + ", due is " + want);
        }
    }

    /** The call must answer or throw so. */
    void answers(String what, Call call, Object want) {
        due(what, answerOf(call), want);
    }

    /** The call must answer or throw so, and leave all that can be seen of the object as it was. */
    void refused(String what, Client x, Call call, Object want) {
        String before = x.sight();
        answers(what, call, want);
        due(what + ": what can be seen behind it", x.sight(), before);
    }

    /** The call's answer, or the exception's name behind "throws.". */
    static Object answerOf(Call call) {
        try {
            return call.run();
        } catch (RuntimeException e) {
            return "throws." + e.getClass().getSimpleName();
        }
    }

    boolean hasWrong() {
        return wrong > 0;
    }

    int wrong() {
        return wrong;
    }

    void end() {
        System.out.println(name + ": " + checks + " checks, " + wrong + " wrong");
        if (wrong > 0) {
            System.exit(1);
        }
    }
}
