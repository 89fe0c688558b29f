import java.util.concurrent.Callable;

/** Counts what is not as due, and ends a test's main with exit code 1 if anything was not. */
final class Check {
    private int checked = 0;
    private int wrong = 0;

    void due(String what, Object want, Object got) {
        checked++;
        if (!want.equals(got)) {
            wrong++;
            System.out.println(what + ": answered " + got + ", due is " + want);
        }
    }

    void thrown(String what, Class<? extends Exception> want, Callable<?> call) {
        due(what, "throws." + want.getSimpleName(), answerOf(call));
    }

    /** The answer of a call, or "throws." with the exact name of the class that it throws. */
    static Object answerOf(Callable<?> call) {
        try {
            return call.call();
        } catch (Exception e) {
            return "throws." + e.getClass().getSimpleName();
        }
    }

    int wrong() {
        return wrong;
    }

    void end(String test) {
        System.out.println(test + ": " + checked + " answers looked at, " + wrong + " not as due");
        if (wrong != 0 || checked == 0) {
            System.exit(1);
        }
    }
}
