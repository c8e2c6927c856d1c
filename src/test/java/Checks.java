/** Counts the answers of one test program that are not as due, and ends it accordingly. */
final class Checks {
    interface Call {
        Object answer();
    }

    private final String title;
    private int made;
    private int wrong;

    Checks(String title) {
        this.title = title;
    }

    void due(String what, Object got, Object want) {
        made++;
        if (!got.equals(want)) {
            wrong++;
            System.out.println(title + ": " + what + " answered " + got + ", due is " + want);
        }
    }

    void dueThrow(String what, Call call, Class<? extends RuntimeException> want) {
        due(what, outcome(call), "throws." + want.getSimpleName());
    }

    /** The answer, or the exception's name: in both cases something that can be compared and printed. */
    static Object outcome(Call call) {
        try {
            return call.answer();
        } catch (RuntimeException e) {
            return "throws." + e.getClass().getSimpleName();
        }
    }

    void end() {
        System.out.println(title + ": " + made + " checks, " + wrong + " wrong");
        if (wrong != 0) {
            System.exit(1);
        }
    }
}
