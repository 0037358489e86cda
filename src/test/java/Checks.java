import java.util.concurrent.Callable;

/** What the tests share: comparing an answer with the one that is due, and counting those that differ. */
final class Checks {
    private int made = 0;
    private int wrong = 0;
    private int sentences = 0;
    private String told = "";

    /** The answer of a call as a text; that of one that throws is the exception's plain name. */
    static String answer(Callable<?> call) {
        try {
            return String.valueOf(call.call());
        } catch (Exception e) {
            return e.getClass().getSimpleName();
        }
    }

    void due(String what, Object want, Callable<?> call) {
        made++;
        String got = answer(call);
        if (!got.equals(String.valueOf(want))) {
            tellWrong(what + " answered " + got + ", due is " + want);
        }
    }

    /** The test of one sentence of the document. What it throws is told as well, so that the others still run. */
    void sentence(String words, Runnable test) {
        int before = made;
        sentences++;
        told = words + ": ";
        try {
            test.run();
        } catch (RuntimeException e) {
            tellWrong("its test was ended by " + e);
        }
        if (made == before) {
            tellWrong("its test looks at nothing");
        }
        told = "";
    }

    private void tellWrong(String text) {
        wrong++;
        System.out.println(told + text);
    }

    boolean allRight() {
        return wrong == 0;
    }

    void end() {
        System.out.println((sentences > 0 ? sentences + " sentences, " : "") + made + " checks, " + wrong + " wrong");
        if (wrong != 0) {
            System.exit(1);
        }
    }
}
