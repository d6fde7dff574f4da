/** Counts the answers that are not due, and ends a test with exit code 1 if there was one. */
final class Check {
    interface Call {
        Object answer();
    }

    private final String test;
    private int calls;
    private int wrong;

    Check(String test) {
        this.test = test;
    }

    void due(String what, Object got, Object want) {
        calls++;
        if (!want.equals(got)) {
            wrong++;
            System.out.println(test + ": " + what + " answered " + got + ", due is " + want);
        }
    }

    /** The very class is compared, so that no exception of the machine passes for one that is due. */
    void dies(String what, Class<? extends RuntimeException> due, Call call) {
        due(what, answerOf(call), due.getSimpleName());
    }

    void diesOfIndex(String what, Call call) {
        dies(what, IndexOutOfBoundsException.class, call);
    }

    void diesOfArgument(String what, Call call) {
        dies(what, IllegalArgumentException.class, call);
    }

    void diesOfState(String what, Call call) {
        dies(what, IllegalStateException.class, call);
    }

    /** The answer of a call, or the name of the exception that it throws. */
    static Object answerOf(Call call) {
        try {
            return call.answer();
        } catch (RuntimeException e) {
            return e.getClass().getSimpleName();
        }
    }

    int answers() {
        return calls;
    }

    void finish() {
        System.out.println(test + ": " + calls + " answers, " + wrong + " not as due");
        if (wrong != 0) {
            System.exit(1);
        }
    }
}
