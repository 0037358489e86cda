import java.io.IOException;
import java.lang.reflect.Method;
import java.lang.reflect.Modifier;
import java.nio.file.Files;
import java.nio.file.Path;
import java.util.ArrayList;
import java.util.List;
import java.util.concurrent.Callable;

/** README.md: the answers of its example, in its order, and the names of all calls. */
final class ReadmeTest extends Signs {
    private static final String CALL = "    sign.";
    private static final String TEXT = "AB-1_C";

    private static String page = "";
    private static final List<String> TOLD = new ArrayList<>();
    private static int next = 0;

    public static void main(String[] args) throws IOException {
        page = Files.readString(Path.of("README.md"));
        for (String row : page.split("\n")) {
            if (row.startsWith(CALL)) {
                TOLD.add(row.strip());
            }
        }
        example();
        names();
        CHECKS.end();
    }

    private static void example() {
        due("README.md types \"" + TEXT + "\"", true, () -> page.contains("(char c : \"" + TEXT + "\".toCharArray())"));
        SignLetters sign = typed(TEXT);
        told("sign.firstError();", sign::firstError);
        told("sign.line();", sign::line);
        told("sign.item(1, 1);", () -> sign.item(1, 1));
        told("sign.item(1, 4);", () -> sign.item(1, 4));
        told("sign.item(1, 5);", () -> sign.item(1, 5));
        told("sign.item(1, 8);", () -> sign.item(1, 8));
        told("sign.count(4);", () -> sign.count(4));
        told("sign.count(5);", () -> sign.count(5));
        told("sign.ifSet(4, 5, 1);", () -> sign.ifSet(4, 5, 1));
        told("sign.set(4, 5);", () -> sign.set(4, 5));
        told("sign.item(1, 2);", () -> sign.item(1, 2));
        told("sign.count(3);", () -> sign.count(3));
        told("sign.even();", sign::even);
        told("sign.bestSnap();", sign::bestSnap);
        told("sign.undo();", sign::undo);
        told("sign.drop(9);", () -> sign.drop(9));
        due("README.md tells more calls than were made", TOLD.size(), () -> next);
    }

    /** The next call that the page tells must be this one, with this answer. */
    private static void told(String call, Callable<?> made) {
        String row = next < TOLD.size() ? TOLD.get(next) : "";
        next++;
        due("README.md tells call " + next, true, () -> row.startsWith(call) && row.contains("// "));
        due(call, answerIn(row), made);
    }

    private static String answerIn(String row) {
        String said = row.substring(row.indexOf("// ") < 0 ? row.length() : row.indexOf("// ") + 3);
        if (said.startsWith("throws an ")) {
            return said.split(" ")[2];
        }
        return said.split(":")[0];
    }

    private static void names() {
        for (Method method : SignLetters.class.getDeclaredMethods()) {
            if (Modifier.isPublic(method.getModifiers())) {
                due("README.md names " + method.getName(), true, () -> page.contains("`" + method.getName() + "("));
            }
        }
    }
}
