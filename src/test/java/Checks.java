import java.util.concurrent.Callable;

/** What the tests share: comparing an answer with the one that is due, and counting those that differ. */
final class Checks {
    private int made = 0;
    private int wrong = 0;

    /** The answer of a call as a text; that of one that throws is the exception's plain name. */
    static String answer(Callable<?> call) {
        try {
            return String.valueOf(call.call());
        } catch (Exception e) {
            return e.getClass().getSimpleName();
        }
    }

    void due(String what, Object want, Callable<?> call) {
        made++;
        String got = answer(call);
        if (!got.equals(String.valueOf(want))) {
            wrong++;
            System.out.println(what + " answered " + got + ", due is " + want);
        }
    }

    boolean allRight() {
        return wrong == 0;
    }

    void end() {
        System.out.println(made + " checks, " + wrong + " wrong");
        if (wrong != 0) {
            System.exit(1);
        }
    }
}
