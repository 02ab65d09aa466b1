import java.util.Objects;

/** Counts the answers that are not as due, and tells them. */
final class Check {
    interface Call {
        Object run();
    }

    private final String name;
    private int checks = 0;
    private int wrong = 0;

    Check(String name) {
        this.name = name;
    }

    void due(String what, Object got, Object want) {
        checks++;
        if (!Objects.equals(got, want)) {
            wrong++;
            System.out.println(name + ": " + what + ": answered " + got + ", due is " + want);
        }
    }

    void throwing(String what, Call call, Class<? extends RuntimeException> want) {
        due(what, answerOf(call), "throws." + want.getSimpleName());
    }

    /** The call's answer, or the exception's name behind "throws.". */
    static Object answerOf(Call call) {
        try {
            return call.run();
        } catch (RuntimeException e) {
            return "throws." + e.getClass().getSimpleName();
        }
    }

    boolean hasWrong() {
        return wrong > 0;
    }

    void end() {
        System.out.println(name + ": " + checks + " checks, " + wrong + " wrong");
        if (wrong > 0) {
            System.exit(1);
        }
    }
}
