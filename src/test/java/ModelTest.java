import java.util.Random;
import java.util.concurrent.Callable;

/** Long runs of calls, each answered by the program and by the model alike; the same runs each time. */
final class ModelTest {
    private static final int RUNS = 120;
    private static final int CALLS = 512;
    private static final String LETTERS = "ABCDEFGHIJKLMNOPQRSTUVWXYZ";
    private static final int[][] RANGES = {{0, 4}, {5, 40}, {1, 30}, {10, 300}, {1, 12}, {0, 100}};

    private final Checks checks;
    private final Random random;
    private final SignLetters sign = new SignLetters();
    private final Model model = new Model();
    private final StringBuilder called = new StringBuilder();
    private String planned = "";

    private ModelTest(Checks checks, int run) {
        this.checks = checks;
        this.random = new Random(run);
    }

    public static void main(String[] args) {
        Checks checks = new Checks();
        for (int run = 0; run < RUNS && checks.allRight(); run++) {
            new ModelTest(checks, run).run(run);
        }
        checks.end();
    }

    private void run(int run) {
        for (int call = 0; call < CALLS && checks.allRight(); call++) {
            if (planned.isEmpty()) {
                step();
            } else {
                int code = planned.charAt(0);
                planned = planned.substring(1);
                alike("append(" + code + ")", () -> sign.append(code), () -> model.append(code));
            }
        }
        if (!checks.allRight()) {
            System.out.println("run " + run + ":" + called);
        }
    }

    private void alike(String call, Callable<?> program, Callable<?> told) {
        called.append(' ').append(call);
        checks.due(call, Checks.answer(told), program);
    }

    private int from(int least, int most) {
        return least + random.nextInt(most - least + 1);
    }

    /** Mostly within its range, now and then beside it, seldom far away. */
    private int around(int least, int most) {
        int dice = random.nextInt(60);
        if (dice == 0) {
            return random.nextInt();
        }
        return dice < 4 ? from(least - 1, most + 1) : from(least, Math.max(least, most));
    }

    private int place() {
        return around(0, model.count(0) - 1);
    }

    private void step() {
        int dice = random.nextInt(100);
        if (dice < 45) {
            change();
        } else if (dice < 52) {
            text();
        } else {
            look();
        }
    }

    private void change() {
        int place = place();
        int other = place();
        switch (random.nextInt(12)) {
            case 0, 1, 2 -> {
                int to = around(0, model.count(0));
                int letter = random.nextInt(6) == 0 ? -1 : around(0, 25);
                alike("put(" + to + ", " + letter + ")", () -> sign.put(to, letter), () -> model.put(to, letter));
            }
            case 3 -> alike("drop(" + place + ")", () -> sign.drop(place), () -> model.drop(place));
            case 4 -> alike("swap(" + place + ", " + other + ")",
                () -> sign.swap(place, other), () -> model.swap(place, other));
            case 5, 6 -> {
                int kern = around(-5, 5);
                alike("kern(" + place + ", " + kern + ")",
                    () -> sign.kern(place, kern), () -> model.kern(place, kern));
            }
            case 7 -> {
                int length = around(50, random.nextBoolean() ? 600 : 320);
                alike("board(" + length + ")", () -> sign.board(length), () -> model.board(length));
            }
            case 8 -> {
                int setting = around(0, 5);
                int value = valueOf(setting);
                alike("set(" + setting + ", " + value + ")",
                    () -> sign.set(setting, value), () -> model.set(setting, value));
            }
            case 9 -> alike("undo()", sign::undo, model::undo);
            case 10 -> alike("keep()", sign::keep, model::keep);
            default -> alike("restore()", sign::restore, model::restore);
        }
    }

    private int valueOf(int setting) {
        int[] range = RANGES[setting >= 0 && setting < 6 ? setting : 0];
        return around(range[0], range[1]);
    }

    private void text() {
        switch (random.nextInt(6)) {
            case 0 -> alike("clearBuffer()", sign::clearBuffer, model::clearBuffer);
            case 1 -> alike("firstError()", sign::firstError, model::firstError);
            case 2 -> {
                int code = around(33, 126);
                alike("append(" + code + ")", () -> sign.append(code), () -> model.append(code));
            }
            case 3 -> planned = plan();
            default -> alike("line()", sign::line, model::line);
        }
    }

    private String plan() {
        StringBuilder text = new StringBuilder();
        int items = from(1, 21);
        for (int i = 0; i < items; i++) {
            if (random.nextInt(8) == 0) {
                text.append('_');
            } else {
                text.append(LETTERS.charAt(random.nextInt(26)));
                if (random.nextInt(3) == 0) {
                    text.append(random.nextBoolean() ? '+' : '-').append(around(1, 5) & 7);
                }
            }
        }
        if (random.nextInt(6) == 0) {
            text.insert(random.nextInt(text.length() + 1), "+-_15A0".charAt(random.nextInt(7)));
        }
        return text.toString();
    }

    private void look() {
        int place = place();
        int rank = around(0, 19);
        switch (random.nextInt(13)) {
            case 0, 1, 2 -> {
                int what = around(0, 8);
                alike("item(" + place + ", " + what + ")",
                    () -> sign.item(place, what), () -> model.item(place, what));
            }
            case 3, 4 -> {
                int what = around(0, 15);
                alike("count(" + what + ")", () -> sign.count(what), () -> model.count(what));
            }
            case 5 -> alike("byArea(" + rank + ")", () -> sign.byArea(rank), () -> model.byArea(rank));
            case 6 -> alike("byFault(" + rank + ")", () -> sign.byFault(rank), () -> model.byFault(rank));
            case 7 -> {
                int setting = around(0, 5);
                int value = valueOf(setting);
                int what = around(0, 1);
                alike("ifSet(" + setting + ", " + value + ", " + what + ")",
                    () -> sign.ifSet(setting, value, what), () -> model.ifSet(setting, value, what));
            }
            case 8 -> alike("bestKern(" + place + ")", () -> sign.bestKern(place), () -> model.bestKern(place));
            case 9 -> alike("even()", sign::even, model::even);
            case 10 -> {
                int what = around(0, 2);
                alike("letter(" + rank + ", " + what + ")",
                    () -> sign.letter(rank, what), () -> model.letter(rank, what));
            }
            case 11 -> {
                int shape = around(0, 3);
                alike("indent(" + shape + ", " + rank + ")",
                    () -> sign.indent(shape, rank), () -> model.indent(shape, rank));
            }
            default -> {
                alike("greatestArea()", sign::greatestArea, model::greatestArea);
                alike("bestSnap()", sign::bestSnap, model::bestSnap);
                alike("digest()", sign::digest, model::digest);
            }
        }
    }
}
