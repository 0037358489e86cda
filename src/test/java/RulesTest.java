import java.io.IOException;
import java.lang.reflect.Field;
import java.lang.reflect.Method;
import java.lang.reflect.Modifier;
import java.nio.file.Files;
import java.nio.file.Path;
import java.util.ArrayList;
import java.util.Arrays;
import java.util.List;
import java.util.Set;
import java.util.TreeSet;
import java.util.stream.Collectors;

/** The face of the document, and those rules of LANGUAGE.md that can be seen from outside or in the text. */
final class RulesTest {
    private static final String SOURCE = "src/main/java/SignLetters.java";
    private static final String[] FACE = {
        "int put(int, int) I A S", "int drop(int) I", "int swap(int, int) I", "int kern(int, int) I A S",
        "int board(int) A", "int set(int, int) I A", "int append(int) A S", "int clearBuffer()",
        "int firstError()", "int line() A", "int undo() S", "int keep()", "int restore() S",
        "int letter(int, int) I A", "int indent(int, int) I", "int item(int, int) I A", "int byArea(int) A",
        "int byFault(int) A", "int count(int) A", "int ifSet(int, int, int) I A", "int greatestArea()",
        "int bestSnap()", "int bestKern(int) I", "double even()", "long digest()",
    };
    private static final String[] FORBIDDEN = {
        "import ", "package ", "->", "::", "static {", "Exact", "finally", "catch", "synchronized", "assert ",
        "System.", "Double.", "String.format", "equals(", "hashCode", "new Object", "while (true)", "for (;;)",
    };

    private static final Checks CHECKS = new Checks();

    public static void main(String[] args) throws IOException {
        face();
        members();
        text(Files.readString(Path.of(SOURCE)));
        made(Files.readString(Path.of(SOURCE)));
        CHECKS.end();
    }

    private static void face() {
        Set<String> found = new TreeSet<>();
        for (Method method : SignLetters.class.getDeclaredMethods()) {
            if (Modifier.isPublic(method.getModifiers()) && !Modifier.isStatic(method.getModifiers())) {
                found.add(spelled(method));
            }
        }
        CHECKS.due("the methods of the face", new TreeSet<>(List.of(FACE)), () -> found);
        CHECKS.due("the class", "public final", () -> Modifier.toString(SignLetters.class.getModifiers()));
        CHECKS.due("the constructor", "public SignLetters()",
            () -> SignLetters.class.getDeclaredConstructors()[0].toString());
        CHECKS.due("NONE", "public static final int SignLetters.NONE",
            () -> SignLetters.class.getDeclaredField("NONE").toString());
    }

    private static String spelled(Method method) {
        String types = Arrays.stream(method.getParameterTypes()).map(Class::getName)
            .collect(Collectors.joining(", "));
        StringBuilder text = new StringBuilder();
        text.append(method.getReturnType().getName()).append(' ').append(method.getName());
        text.append('(').append(types).append(')');
        for (Class<?> thrown : method.getExceptionTypes()) {
            text.append(' ').append(thrown == IllegalStateException.class ? 'S'
                : thrown == IllegalArgumentException.class ? 'A' : 'I');
        }
        return text.toString();
    }

    private static void members() {
        List<Class<?>> all = new ArrayList<>(List.of(SignLetters.class.getDeclaredClasses()));
        CHECKS.due("classes at most twelve", true, () -> all.size() < 12);
        for (Class<?> inside : all) {
            CHECKS.due(inside + " is private", true, () -> Modifier.isPrivate(inside.getModifiers()));
            CHECKS.due(inside + " is static", true, () -> Modifier.isStatic(inside.getModifiers()));
        }
        all.add(SignLetters.class);
        Set<String> names = Arrays.stream(SignLetters.class.getMethods())
            .filter(method -> method.getDeclaringClass() == SignLetters.class).map(Method::getName)
            .collect(Collectors.toSet());
        for (Class<?> inside : all) {
            fields(inside);
            for (Method method : inside.getDeclaredMethods()) {
                boolean open = Modifier.isPublic(method.getModifiers());
                CHECKS.due(method + " has a name of its own", true, () -> open || !names.contains(method.getName()));
                CHECKS.due(method + " has at most seven parameters", true, () -> method.getParameterCount() <= 7);
                CHECKS.due(method + " is private or of the face", true,
                    () -> open || inside != SignLetters.class || Modifier.isPrivate(method.getModifiers()));
            }
        }
    }

    private static void fields(Class<?> inside) {
        int own = 0;
        for (Field field : inside.getDeclaredFields()) {
            int modifiers = field.getModifiers();
            if (!Modifier.isStatic(modifiers)) {
                own++;
            } else {
                CHECKS.due(field + " is final", true, () -> Modifier.isFinal(modifiers));
                CHECKS.due(field + " is of a type that rule 5 names", true,
                    () -> Set.of("int", "long", "boolean", "char", "[I").contains(field.getType().getName()));
            }
            CHECKS.due(field + " is private", true,
                () -> Modifier.isPrivate(modifiers) || field.getName().equals("NONE"));
        }
        int fields = own;
        CHECKS.due(inside + " has at most twenty fields", true, () -> fields <= 20);
    }

    private static void text(String source) {
        for (String word : FORBIDDEN) {
            CHECKS.due("\"" + word + "\" in the source", -1, () -> source.indexOf(word));
        }
        CHECKS.due("a sign above 126 in the source", true, () -> source.chars().allMatch(sign -> sign <= 126));
    }

    /** Room is counted: what an object needs is made with it, and no call makes more than its exception. */
    private static void made(String source) {
        for (String line : source.split("\n")) {
            String words = line.strip();
            boolean making = words.contains("new ") && !words.startsWith("//");
            boolean allowed = words.startsWith("throw new ") || words.startsWith("private final ")
                || words.equals("states[index] = new State();");
            CHECKS.due("what is made by " + words, true, () -> !making || allowed);
        }
    }
}
