/** Counts and prints what is not as it is due; each test ends by it. */
final class Check {
    interface Call {
        Object answer();
    }

    private final String name;
    private int checks;
    private int wrong;

    Check(String name) {
        this.name = name;
    }

    void due(String what, Object got, Object want) {
        checks++;
        if (!want.equals(got)) {
            wrong++;
            System.out.println(name + ": " + what + " is " + got + ", due is " + want);
        }
    }

    void isTrue(String what, boolean holds) {
        due(what, holds, true);
    }

    /** The class of the exception must be this very one, not one below it. */
    void throwing(String what, Class<? extends RuntimeException> due, Call call) {
        due(what, outcome(call), due.getSimpleName());
    }

    /** The answer, or the name of the exception. */
    static Object outcome(Call call) {
        try {
            return call.answer();
        } catch (RuntimeException e) {
            return e.getClass().getSimpleName();
        }
    }

    void end() {
        System.out.println(name + ": " + checks + " checks, " + wrong + " wrong");
        if (wrong > 0 || checks == 0) {
            System.exit(1);
        }
    }
}
