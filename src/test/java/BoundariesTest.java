import java.util.function.IntFunction;
import java.util.function.ToIntFunction;

/**
 * The promises 1 to 26, sentence by sentence: each that names a boundary case is told as the document tells it, and has
 * a test of its own. As in TermsTest, J and A are 6 wide and have straight edges between them.
 */
final class BoundariesTest extends Signs {
    private static final String TWENTY = "JAJAJAJAJAJAJAJAJAJA";
    private static final String BLANKS = "____________________";
    private static final int[] FAR = {LOWEST, -65536, -1000, 1000, 65536, HIGHEST};

    public static void main(String[] args) {
        newObject();
        put();
        putRefused();
        drop();
        swap();
        kern();
        board();
        set();
        append();
        clearBuffer();
        firstError();
        line();
        lineRefused();
        undo();
        keep();
        restore();
        letter();
        indent();
        itemsAndBlanks();
        itemsOfPairs();
        byArea();
        byFault();
        countItems();
        countWidths();
        countRefused();
        ifSet();
        ifSetRefused();
        greatestArea();
        bestSnap();
        bestKern();
        even();
        digest();
        digestBits();
        CHECKS.end();
    }

    private static void promise(int number, String words, Runnable test) {
        sentence("promise " + number + ": " + words, test);
    }

    /** Refused for a number just beside a range, and for others far from it. */
    private static void refusedBeside(String exception, int least, int most, IntFunction<?> call) {
        due("one below " + least, exception, () -> call.apply(least - 1));
        due("one above " + most, exception, () -> call.apply(most + 1));
        for (int far : FAR) {
            due("" + far, exception, () -> call.apply(far));
        }
    }

    /** An undoable call: one saved state more, and undo brings back what was before, and all that follows from it. */
    private static void undone(SignLetters sign, ToIntFunction<SignLetters> change) {
        String before = seen(sign);
        int saved = sign.count(15);
        change.applyAsInt(sign);
        due("saved states behind it", saved + 1, () -> sign.count(15));
        due("a digest that is looked at between", spelled(sign, ""), sign::digest);
        sign.undo();
        due("what is seen behind undo", before, () -> seen(sign));
    }

    private static String seen(SignLetters sign) {
        return stateOf(sign) + ", " + counts(sign) + ", " + row(sign, 2) + ", " + row(sign, 7) + ", " + sign.byArea(0)
            + ", " + sign.byFault(0);
    }

    // ---- the line

    private static void newObject() {
        promise(1, "Creates an empty line", () -> {
            due("items", 0, () -> new SignLetters().count(0));
            due("its first item", INDEX, () -> new SignLetters().item(0, 0));
        });
        promise(1, "without a snapshot", () -> due("restore", STATE, () -> new SignLetters().restore()));
        promise(1, "with an empty buffer.", () -> {
            due("the buffer", 0, () -> new SignLetters().clearBuffer());
            due("another object's buffer is not shared", 0, () -> {
                typed("AB");
                return new SignLetters().clearBuffer();
            });
        });
    }

    private static String putAt(String line, int place, int letter) {
        SignLetters sign = line.isEmpty() ? new SignLetters() : lined(line);
        int items = sign.put(place, letter);
        return items + " " + textOf(sign);
    }

    private static void put() {
        promise(2, "Puts a letter, or a blank, at a place; those from there on move one place to the right.", () -> {
            due("at the first place", "4 ZA+1_C-2", () -> putAt("A+1_C-2", 0, 25));
            due("at the last item's place", "4 A+1_ZC-2", () -> putAt("A+1_C-2", 2, 25));
            due("a blank ahead of a blank", "4 A+1__C-2", () -> putAt("A+1_C-2", 1, -1));
            due("into 19 items", "20 ZAJAJAJAJAJAJAJAJAJA", () -> putAt(TWENTY.substring(1), 0, 25));
            due("a blank into 19 blanks", "20 " + BLANKS, () -> putAt(BLANKS.substring(1), 19, -1));
        });
        promise(2, "Undoable.", () -> {
            undone(lined("A+5B"), sign -> sign.put(0, 1));
            undone(new SignLetters(), sign -> sign.put(0, -1));
        });
        promise(2, "`place`: 0 to how many items there are", () -> {
            due("0 of no items", "1 A", () -> putAt("", 0, 0));
            due("1 of no items", INDEX, () -> putAt("", 1, 0));
            due("2 of 2 items", "3 AB_", () -> putAt("AB", 2, -1));
            due("3 of 2 items", INDEX, () -> putAt("AB", 3, 0));
        });
        promise(2, "`letter`: 0 to 25, or NONE for a blank", () -> {
            due("0", "2 AB", () -> putAt("B", 0, 0));
            due("25", "2 ZB", () -> putAt("B", 0, 25));
            due("NONE", "2 _B", () -> putAt("B", 0, SignLetters.NONE));
        });
        promise(2, "Returns how many items there are then.", () -> {
            due("the first", 1, () -> new SignLetters().put(0, 0));
            due("the 20th", 20, () -> lined(TWENTY.substring(1)).put(0, 0));
        });
    }

    private static void putRefused() {
        promise(2, "Throws `IndexOutOfBoundsException` if place is out of range", () -> {
            refusedBeside(INDEX, 0, 3, place -> lined("A_B").put(place, 0));
            refusedBeside(INDEX, 0, 20, place -> lined(TWENTY).put(place, 0));
        });
        promise(2, "Throws `IllegalArgumentException` if letter is out of range", () -> {
            refusedBeside(ARGUMENT, -1, 25, letter -> lined("A_B").put(3, letter));
            refusedBeside(ARGUMENT, -1, 25, letter -> lined(TWENTY).put(20, letter));
        });
        promise(2, "Throws `IllegalStateException` if there are 20", () -> {
            due("a letter among 20", STATE, () -> lined(TWENTY).put(0, 0));
            due("a blank behind 20", STATE, () -> lined(TWENTY).put(20, -1));
            due("a letter among 20 blanks", STATE, () -> lined(BLANKS).put(10, 0));
        });
    }

    private static String dropAt(String line, int place) {
        SignLetters sign = lined(line);
        int items = sign.drop(place);
        return items + " " + textOf(sign);
    }

    private static void drop() {
        promise(3, "Takes an item off; those behind it move one place to the left.", () -> {
            due("the first", "3 _B+2C", () -> dropAt("A-1_B+2C", 0));
            due("a blank", "3 A-1B+2C", () -> dropAt("A-1_B+2C", 1));
            due("the last", "3 A-1_B+2", () -> dropAt("A-1_B+2C", 3));
            due("the first of 20", "19 " + TWENTY.substring(1), () -> dropAt(TWENTY, 0));
            due("the last of 20", "19 " + TWENTY.substring(0, 19), () -> dropAt(TWENTY, 19));
        });
        promise(3, "Undoable.", () -> {
            undone(lined("AB+5"), sign -> sign.drop(1));
            undone(lined("A-5"), sign -> sign.drop(0));
        });
        promise(3, "Returns how many items are left.", () -> {
            due("of 20", 19, () -> lined(TWENTY).drop(5));
            due("of one", 0, () -> lined("_").drop(0));
        });
        promise(3, "Throws `IndexOutOfBoundsException` if there is no such item", () -> {
            due("of an empty line", INDEX, () -> new SignLetters().drop(0));
            refusedBeside(INDEX, 0, 2, place -> lined("A_B").drop(place));
            refusedBeside(INDEX, 0, 19, place -> lined(TWENTY).drop(place));
        });
    }

    private static String swapped(String line, int place, int other) {
        SignLetters sign = lined(line);
        sign.swap(place, other);
        return textOf(sign);
    }

    private static void swap() {
        promise(4, "Swaps two items; kerns go with their letters.", () -> {
            due("the first and the last", "C-5B_A+5", () -> swapped("A+5B_C-5", 0, 3));
            due("the last and the first", "C-5B_A+5", () -> swapped("A+5B_C-5", 3, 0));
            due("side by side", "BA+5_C-5", () -> swapped("A+5B_C-5", 0, 1));
            due("with a blank", "A+5BC-5_", () -> swapped("A+5B_C-5", 2, 3));
            due("a letter with itself", "A+5B_C-5", () -> swapped("A+5B_C-5", 3, 3));
            due("the only item with itself", "A+5", () -> swapped("A+5", 0, 0));
            due("two blanks", "A__", () -> swapped("A__", 1, 2));
        });
        promise(4, "Undoable.", () -> {
            undone(lined("A+5_C-5"), sign -> sign.swap(0, 2));
            undone(lined("A+5_C-5"), sign -> sign.swap(1, 1));
        });
        promise(4, "Returns the width of the line then.", () -> {
            // JA is 6 + 6 + 6 wide; AJ is 6 + 3 + 6, for its round edges have 36.
            due("JA swapped", 15, () -> lined("JA").swap(0, 1));
            due("AJ swapped", 18, () -> lined("AJ").swap(0, 1));
            due("with itself", 18, () -> lined("JA").swap(1, 1));
            due("by the snap 12 a letter comes back from 24 to 12", 26, () -> lined("J_A", 4, 12).swap(1, 2));
        });
        promise(4, "Throws `IndexOutOfBoundsException` if there is no such item", () -> {
            due("of an empty line", INDEX, () -> new SignLetters().swap(0, 0));
            refusedBeside(INDEX, 0, 2, place -> lined("A_B").swap(place, 0));
            refusedBeside(INDEX, 0, 2, place -> lined("A_B").swap(0, place));
            refusedBeside(INDEX, 0, 2, place -> lined("A_B").swap(place, place));
            refusedBeside(INDEX, 0, 19, place -> lined(TWENTY).swap(19, place));
        });
    }

    private static String kerned(String line, int place, int kern) {
        SignLetters sign = lined(line);
        int before = sign.kern(place, kern);
        return before + " " + textOf(sign);
    }

    private static void kern() {
        promise(5, "Kerns a letter.", () -> {
            due("the second of a pair", "10 JA-2", () -> kerned("JA", 1, -2));
            due("the first letter, of no pair", "10 J+3A", () -> kerned("JA", 0, 3));
            due("a letter behind a blank, of no pair", "10 _A+4", () -> kerned("_A", 1, 4));
            due("the last of 20", "10 " + TWENTY + "+1", () -> kerned(TWENTY, 19, 1));
        });
        promise(5, "Undoable.", () -> {
            undone(lined("JA+5"), sign -> sign.kern(1, -5));
            undone(lined("JA+5"), sign -> sign.kern(1, 5));
        });
        promise(5, "`kern`: -5 to 5", () -> {
            due("-5", "10 JA-5", () -> kerned("JA", 1, -5));
            due("0", "12 JA", () -> kerned("JA+2", 1, 0));
            due("5", "10 JA+5", () -> kerned("JA", 1, 5));
        });
        promise(5, "Returns the previous kern, and 10 more.", () -> {
            due("of -5", 5, () -> lined("JA-5").kern(1, 1));
            due("of 0", 10, () -> lined("JA").kern(1, 1));
            due("of 5", 15, () -> lined("JA+5").kern(1, 5));
        });
        promise(5, "Throws `IndexOutOfBoundsException` if there is no such item", () -> {
            due("of an empty line", INDEX, () -> new SignLetters().kern(0, 0));
            refusedBeside(INDEX, 0, 1, place -> lined("JA").kern(place, 0));
            refusedBeside(INDEX, 0, 19, place -> lined(TWENTY).kern(place, 6));
        });
        promise(5, "Throws `IllegalArgumentException` if kern is out of range", () -> {
            refusedBeside(ARGUMENT, -5, 5, kern -> lined("JA").kern(1, kern));
            refusedBeside(ARGUMENT, -5, 5, kern -> lined("J_").kern(1, kern));
        });
        promise(5, "Throws `IllegalStateException` if it is a blank", () -> {
            due("the only blank", STATE, () -> lined("_").kern(0, 0));
            due("a blank between", STATE, () -> lined("A_B").kern(1, 5));
            due("a blank to which a kerned letter was swapped", STATE, () -> {
                SignLetters sign = lined("A+5_");
                sign.swap(0, 1);
                return sign.kern(0, 1);
            });
        });
    }

    private static void board() {
        promise(6, "Changes the board.", () -> {
            due("to 50", 50, () -> boarded("A", 50).count(6));
            due("to 600", 600, () -> boarded("A", 600).count(6));
        });
        promise(6, "Undoable.", () -> {
            undone(lined("A"), sign -> sign.board(50));
            undone(lined("A"), sign -> sign.board(300));
        });
        promise(6, "`length`: 50 to 600", () -> {
            due("50", 300, () -> new SignLetters().board(50));
            due("600", 300, () -> new SignLetters().board(600));
        });
        promise(6, "Returns the previous length.", () -> {
            due("of 50", 50, () -> boarded("A", 50).board(50));
            due("of 600", 600, () -> boarded("A", 600).board(50));
        });
        promise(6, "Throws `IllegalArgumentException` if length is out of range",
            () -> refusedBeside(ARGUMENT, 50, 600, length -> new SignLetters().board(length)));
    }

    private static void set() {
        int[] least = {0, 5, 1, 10, 1, 0};
        int[] most = {4, 40, 30, 300, 12, 100};
        promise(7, "Changes a setting.", () -> {
            SignLetters sign = new SignLetters();
            for (int i = 0; i < 6; i++) {
                sign.set(i, least[i]);
            }
            due("all to their least", "0 5 1 10 1 0", () -> counts(sign, 9, 14));
            sign.set(5, 100);
            due("one alone", "0 5 1 10 1 100", () -> counts(sign, 9, 14));
        });
        promise(7, "Undoable.", () -> {
            undone(lined("A"), sign -> sign.set(0, 4));
            undone(lined("A"), sign -> sign.set(5, 100));
            undone(lined("A"), sign -> sign.set(5, 15));
        });
        promise(7, "`setting`: 0 to 5", () -> {
            due("0", 1, () -> new SignLetters().set(0, 0));
            due("5", 15, () -> new SignLetters().set(5, 0));
        });
        promise(7, "Returns the previous value.", () -> {
            for (int i = 0; i < 6; i++) {
                int setting = i;
                due("of the least", least[i], () -> lined("A", setting, least[setting]).set(setting, most[setting]));
                due("of the greatest", most[i], () -> lined("A", setting, most[setting]).set(setting, most[setting]));
            }
        });
        promise(7, "Throws `IndexOutOfBoundsException` if there is no such setting", () -> {
            refusedBeside(INDEX, 0, 5, setting -> new SignLetters().set(setting, 10));
            refusedBeside(INDEX, 0, 5, setting -> new SignLetters().set(setting, -1));
        });
        promise(7, "Throws `IllegalArgumentException` if value is out of range", () -> {
            for (int i = 0; i < 6; i++) {
                int setting = i;
                refusedBeside(ARGUMENT, least[i], most[i], value -> new SignLetters().set(setting, value));
            }
        });
    }

    // ---- texts

    private static SignLetters fullBuffer() {
        return typed(TWENTY + TWENTY + TWENTY);
    }

    private static void append() {
        promise(8, "Appends a character to the buffer.", () -> {
            // A character that has no place in a line stays there all the same.
            due("a character that is no part of a line", 2, () -> typed("A").append('!'));
            due("a line of what was appended", "A-5_", () -> textOf(lined("A-5_")));
            due("no state is saved", 0, () -> typed("AB").count(15));
        });
        promise(8, "`code`: the character code, 33 to 126", () -> {
            due("33", 1, () -> new SignLetters().append(33));
            due("126", 1, () -> new SignLetters().append(126));
        });
        promise(8, "Returns the new length of the buffer.", () -> {
            due("the first", 1, () -> new SignLetters().append('A'));
            due("the 60th", 60, () -> typed(TWENTY + TWENTY + TWENTY.substring(1)).append('A'));
        });
        promise(8, "Throws `IllegalArgumentException` if code is not 33 to 126", () -> {
            refusedBeside(ARGUMENT, 33, 126, code -> new SignLetters().append(code));
            refusedBeside(ARGUMENT, 33, 126, code -> fullBuffer().append(code));
            due("65 and 65536, together", ARGUMENT, () -> new SignLetters().append(65601));
            due("65 and 256, together", ARGUMENT, () -> new SignLetters().append(321));
        });
        promise(8, "Throws `IllegalStateException` if the buffer has 60 characters", () -> {
            due("the 61st", STATE, () -> fullBuffer().append('A'));
            due("the 61st behind an error", STATE, () -> typed("?".repeat(60)).append('?'));
        });
    }

    private static void clearBuffer() {
        promise(9, "Clears the buffer.", () -> {
            SignLetters sign = typed("?A+");
            sign.clearBuffer();
            due("cleared again", 0, sign::clearBuffer);
            due("the error that was in it", 0, sign::firstError);
            due("what comes into it then", "B", () -> {
                type(sign, "B");
                sign.line();
                return textOf(sign);
            });
        });
        promise(9, "Returns the length that it had.", () -> {
            due("none", 0, () -> new SignLetters().clearBuffer());
            due("one", 1, () -> typed("A").clearBuffer());
            due("60", 60, () -> fullBuffer().clearBuffer());
        });
    }

    private static void firstError() {
        promise(10, "Finds the first syntax error of the buffer.", () -> {
            due("of two", 1, () -> typed("A?B?").firstError());
            due("the buffer stays", 4, () -> {
                SignLetters sign = typed("A?B?");
                sign.firstError();
                return sign.clearBuffer();
            });
        });
        promise(10, "Returns the index of the first character that is a syntax error", () -> {
            due("the first one", 0, () -> typed("?").firstError());
            due("the last one", 3, () -> typed("A+5?").firstError());
            due("the 21st item", 20, () -> typed(TWENTY + "A").firstError());
            due("the 21st item of a full buffer", 20, () -> fullBuffer().firstError());
            due("the 60th", 59, () -> typed("A+5".repeat(19) + "A+6").firstError());
        });
        promise(10, "the length of the buffer if there is none.", () -> {
            due("an empty one", 0, () -> new SignLetters().firstError());
            due("one item", 1, () -> typed("_").firstError());
            due("a line that is not complete", 2, () -> typed("A-").firstError());
            due("a full one", 60, () -> typed("A+5".repeat(20)).firstError());
        });
    }

    private static void line() {
        promise(11, "Makes the line that is in the buffer", () -> {
            due("of one", "A", () -> textOf(lined("A")));
            due("of 20", TWENTY, () -> textOf(lined(TWENTY)));
            due("of 60 characters", "A+5".repeat(20), () -> textOf(lined("A+5".repeat(20))));
            SignLetters sign = lined(TWENTY + "+5");
            type(sign, "_B");
            sign.line();
            due("in place of a longer one", "_B", () -> textOf(sign));
            type(sign, TWENTY);
            sign.line();
            due("none of the older kerns", TWENTY, () -> textOf(sign));
            SignLetters other = boarded("JA", 50, 0, 4, 5, 100);
            type(other, "B");
            other.line();
            due("the board and the settings stay", "B 50 4 20 8 60 1 100", () -> stateOf(other));
        });
        promise(11, "and clears the buffer.", () -> {
            due("of one", 0, () -> lined("A").clearBuffer());
            due("of 60 characters", 0, () -> lined("A+5".repeat(20)).clearBuffer());
        });
        promise(11, "Undoable.", () -> {
            SignLetters sign = lined("JA+5");
            type(sign, "C");
            undone(sign, SignLetters::line);
            undone(typed("_"), SignLetters::line);
        });
        promise(11, "Returns how many items there are then.", () -> {
            due("one", 1, () -> typed("_").line());
            due("one with a kern", 1, () -> typed("A+5").line());
            due("20", 20, () -> typed(TWENTY).line());
        });
    }

    private static void lineRefused() {
        promise(11, "Throws `IllegalArgumentException` if the buffer is not a complete line as a text", () -> {
            due("an empty buffer", ARGUMENT, () -> new SignLetters().line());
            for (String text : new String[] {"A+", "A-", "_B-", "?", "A?", "A+0", "A+6", "_+1", "+1", TWENTY + "A",
                TWENTY + "+"}) {
                due(text, ARGUMENT, () -> typed(text).line());
            }
            due("an empty buffer behind a line", ARGUMENT, () -> lined("A").line());
        });
        promise(11, "(the buffer stays)", () -> {
            SignLetters sign = typed("A+");
            due("a line that is not complete", ARGUMENT, sign::line);
            due("its figure", 3, () -> sign.append('4'));
            due("the line that is then complete", 1, sign::line);
            due("its item", "A+4", () -> textOf(sign));
            due("60 characters", 60, () -> {
                SignLetters full = fullBuffer();
                Checks.answer(full::line);
                return full.clearBuffer();
            });
        });
    }

    // ---- undo, the snapshot

    private static void undo() {
        promise(12, "Restores the latest saved state, and drops it.", () -> {
            SignLetters sign = boarded("JA+5", 50, 4, 12);
            sign.undo();
            due("behind one undo", "JA+5 300 1 20 8 60 12 15", () -> stateOf(sign));
            sign.undo();
            due("behind two", "JA+5 300 1 20 8 60 1 15", () -> stateOf(sign));
            sign.undo();
            due("behind three, a new line", " 300 1 20 8 60 1 15", () -> stateOf(sign));
        });
        promise(12, "Returns how many saved states are left.", () -> {
            due("of one", 0, () -> lined("A").undo());
            due("of two", 1, () -> lined("A", 0, 0).undo());
            due("of six", 5, () -> {
                SignLetters sign = new SignLetters();
                for (int i = 0; i < 20; i++) {
                    sign.put(0, i);
                }
                return sign.undo();
            });
        });
        promise(12, "Throws `IllegalStateException` if there is none", () -> {
            due("of a new object", STATE, () -> new SignLetters().undo());
            due("behind the last one", STATE, () -> {
                SignLetters sign = lined("A");
                sign.undo();
                return sign.undo();
            });
        });
    }

    private static void keep() {
        promise(13, "Takes a snapshot, in place of the one before.", () -> {
            SignLetters sign = lined("AB");
            sign.keep();
            sign.drop(0);
            sign.keep();
            sign.drop(0);
            sign.restore();
            due("the later one", "B", () -> textOf(sign));
            due("it saves no state", 0, () -> {
                SignLetters unsaved = new SignLetters();
                unsaved.keep();
                return unsaved.count(15);
            });
        });
        promise(13, "Returns how many items there are.", () -> {
            due("none", 0, () -> new SignLetters().keep());
            due("20", 20, () -> lined(TWENTY).keep());
        });
    }

    private static void restore() {
        promise(14, "Restores the state of the snapshot", () -> {
            SignLetters sign = boarded("JA+5_", 50, 4, 12);
            sign.keep();
            sign.kern(1, -5);
            sign.board(600);
            sign.set(4, 1);
            sign.drop(2);
            sign.restore();
            due("the line, the board, the settings", "JA+5_ 50 1 20 8 60 12 15", () -> stateOf(sign));
            due("where the letters then begin", "0 24 30", () -> row(sign, 2));
        });
        promise(14, "which stays.", () -> {
            SignLetters sign = lined("A");
            sign.keep();
            sign.restore();
            sign.kern(0, 5);
            due("restored again", 1, sign::restore);
            due("a change behind restore is not in it", "A", () -> textOf(sign));
        });
        promise(14, "Undoable.", () -> {
            SignLetters sign = lined("A");
            sign.keep();
            undone(sign, SignLetters::restore);
            sign.board(50);
            undone(sign, SignLetters::restore);
        });
        promise(14, "Returns how many items there are then.", () -> {
            due("none", 0, () -> {
                SignLetters sign = new SignLetters();
                sign.keep();
                sign.put(0, 0);
                return sign.restore();
            });
            due("20", 20, () -> {
                SignLetters sign = lined(TWENTY);
                sign.keep();
                sign.drop(0);
                return sign.restore();
            });
        });
        promise(14, "Throws `IllegalStateException` if there is no snapshot", () -> {
            due("of a new object", STATE, () -> new SignLetters().restore());
            due("of a line with saved states", STATE, () -> lined("A", 0, 0).restore());
        });
    }

    // ---- looks

    private static void letter() {
        promise(15, "`letter`: 0 to 25", () -> {
            due("0", 6, () -> new SignLetters().letter(0, 0));
            due("25", 10, () -> new SignLetters().letter(25, 0));
        });
        promise(15, "`what`: 0: its width; 1: the shape of its left edge; 2: that of its right edge", () -> {
            due("the widths of J and F", "6 14",
                () -> new SignLetters().letter(9, 0) + " " + new SignLetters().letter(5, 0));
            due("the left edges of D and E", "3 0",
                () -> new SignLetters().letter(3, 1) + " " + new SignLetters().letter(4, 1));
            due("the right edges of B and C", "0 3",
                () -> new SignLetters().letter(1, 2) + " " + new SignLetters().letter(2, 2));
        });
        promise(15, "Throws `IndexOutOfBoundsException` if there is no such letter", () -> {
            refusedBeside(INDEX, 0, 25, letter -> new SignLetters().letter(letter, 0));
            refusedBeside(INDEX, 0, 25, letter -> new SignLetters().letter(letter, 3));
        });
        promise(15, "Throws `IllegalArgumentException` if what is not 0 to 2",
            () -> refusedBeside(ARGUMENT, 0, 2, what -> new SignLetters().letter(25, what)));
    }

    private static void indent() {
        promise(16, "Returns the indent of a shape, with the brush of now.", () -> {
            SignLetters sign = lined("A");
            due("the brush at first", 3, () -> sign.indent(1, 0));
            sign.set(0, 4);
            due("the brush 4", 0, () -> sign.indent(1, 9));
            sign.undo();
            due("the brush behind undo", 3, () -> sign.indent(1, 9));
        });
        promise(16, "`shape`: 0 to 3", () -> {
            due("0", 0, () -> new SignLetters().indent(0, 4));
            due("3", 4, () -> new SignLetters().indent(3, 4));
        });
        promise(16, "`row`: 0 to 9", () -> {
            due("0", 0, () -> new SignLetters().indent(2, 0));
            due("9", 3, () -> new SignLetters().indent(2, 9));
        });
        promise(16, "Throws `IndexOutOfBoundsException` if there is no such shape or row", () -> {
            refusedBeside(INDEX, 0, 3, shape -> new SignLetters().indent(shape, 0));
            refusedBeside(INDEX, 0, 9, row -> new SignLetters().indent(3, row));
            refusedBeside(INDEX, 0, 9, both -> new SignLetters().indent(both, both));
        });
    }

    private static void itemsAndBlanks() {
        promise(17, "0: its letter, NONE for a blank", () -> {
            due("A, a blank, Z", "0 -1 25", () -> row(lined("A_Z"), 0));
            due("a blank in a letter's place", "-1 0", () -> {
                SignLetters sign = lined("A_");
                sign.swap(0, 1);
                return row(sign, 0);
            });
        });
        promise(17, "1: its kern, and 10 more, NONE for a blank", () -> {
            due("kerns -5 to 5", "5 10 -1 15 10", () -> row(lined("A-5B_C+5D"), 1));
            due("a blank in a kerned letter's place", "-1 15", () -> {
                SignLetters sign = lined("A+5_");
                sign.swap(0, 1);
                return row(sign, 1);
            });
        });
        promise(17, "2: where it begins; 3: where it ends", () -> {
            due("the begins of JA_J", "0 12 18 26", () -> row(lined("JA_J"), 2));
            due("the ends of JA_J", "6 18 26 32", () -> row(lined("JA_J"), 3));
            due("the begins of 20 blanks", 570, () -> lined(BLANKS, 2, 30).item(19, 2));
            due("the ends of 20 blanks", 600, () -> lined(BLANKS, 2, 30).item(19, 3));
        });
        promise(17, "Throws `IndexOutOfBoundsException` if there is no such item", () -> {
            due("of an empty line", INDEX, () -> new SignLetters().item(0, 0));
            refusedBeside(INDEX, 0, 2, place -> lined("A_B").item(place, 0));
            refusedBeside(INDEX, 0, 19, place -> lined(TWENTY).item(place, 9));
            due("of a dropped one", INDEX, () -> {
                SignLetters sign = lined("AB");
                sign.drop(0);
                return sign.item(1, 0);
            });
        });
        promise(17, "Throws `IllegalArgumentException` if what is not 0 to 8", () -> {
            refusedBeside(ARGUMENT, 0, 8, what -> lined("JA").item(1, what));
            refusedBeside(ARGUMENT, 0, 8, what -> lined("_").item(0, what));
        });
    }

    private static void itemsOfPairs() {
        promise(17, "4: the gap of the pair of which it is the second letter; 5: the area of this pair; 6: the same "
            + "counted cell by cell; 7: its share", () -> {
                SignLetters sign = lined("JA-5_JA+5", 3, 50);
                due("gaps 0 and 10", "-1 0 -1 -1 10", () -> row(sign, 4));
                due("areas 0 and 100", "-1 0 -1 -1 100", () -> row(sign, 5));
                due("counted", "-1 0 -1 -1 100", () -> row(sign, 6));
                due("shares 100 and 100", "-1 100 -1 -1 100", () -> row(sign, 7));
            });
        promise(17, "8: 1 if this pair is a fault, otherwise 0", () -> {
            due("shares 16, 0 and 16 by 15", "-1 1 -1 -1 0 -1 -1 1", () -> row(lined("JA-1_JA_JA+1"), 8));
            due("the same by 16", "-1 0 -1 -1 0 -1 -1 0", () -> row(lined("JA-1_JA_JA+1", 5, 16), 8));
        });
        promise(17, "4 to 8 are NONE, if it is not the second letter of a pair", () -> {
            for (int i = 4; i <= 8; i++) {
                int what = i;
                due("the number " + i + " of A_B_", "-1 -1 -1 -1", () -> row(lined("A_B_"), what));
                due("the number " + i + " of __A+5", "-1 -1 -1", () -> row(lined("__A+5"), what));
                due("the number " + i + " of the first letter of a pair", -1, () -> lined("JA").item(0, what));
                due("the number " + i + " of a letter that has become the first", -1, () -> {
                    SignLetters sign = lined("JA");
                    sign.drop(0);
                    return sign.item(0, what);
                });
            }
        });
    }

    private static void byArea() {
        promise(18, "`rank`: its place in this order, from 0", () -> {
            due("the first of two", 4, () -> lined("JA_JA-1").byArea(0));
            due("the last of two", 1, () -> lined("JA_JA-1").byArea(1));
            due("the last of 19", 18, () -> lined(TWENTY).byArea(18));
        });
        promise(18, "Returns the place of its second letter; NONE if there are not so many pairs.", () -> {
            due("the only pair", 2, () -> lined("_JA").byArea(0));
            due("the rank 1 of one pair", -1, () -> lined("_JA").byArea(1));
            due("the rank 19 of 19 pairs", -1, () -> lined(TWENTY).byArea(19));
            due("the rank 20 of 19 pairs", -1, () -> lined(TWENTY).byArea(20));
            due("the greatest rank", -1, () -> lined(TWENTY).byArea(HIGHEST));
            due("an empty line", -1, () -> new SignLetters().byArea(0));
            due("a line without pairs", -1, () -> lined("A_B").byArea(0));
            due("a line that had pairs", -1, () -> {
                SignLetters sign = lined("JA");
                sign.byArea(0);
                sign.put(1, -1);
                return sign.byArea(0);
            });
        });
        promise(18, "Throws `IllegalArgumentException` if rank is below 0", () -> {
            due("-1", ARGUMENT, () -> lined("JA").byArea(-1));
            due("the least of all", ARGUMENT, () -> lined("JA").byArea(LOWEST));
            due("-1 of an empty line", ARGUMENT, () -> new SignLetters().byArea(-1));
        });
    }

    private static void byFault() {
        promise(19, "(pairs that are no faults, too).", () -> {
            due("the only pair, no fault", 1, () -> lined("JA").byFault(0));
            due("no fault behind a fault", "4 1", () -> {
                SignLetters sign = lined("JA_JA+5");
                return sign.byFault(0) + " " + sign.byFault(1);
            });
        });
        promise(19, "`rank`: its place in this order, from 0", () -> {
            due("the first of two", 4, () -> lined("JA_JA-1").byFault(0));
            due("the last of two", 1, () -> lined("JA_JA-1").byFault(1));
            due("the last of 20 letters", true, () -> lined(TWENTY).byFault(18) > 0);
        });
        promise(19, "Returns the place of its second letter; NONE if there are not so many pairs.", () -> {
            due("the only pair", 2, () -> lined("_JA").byFault(0));
            due("the rank 1 of one pair", -1, () -> lined("_JA").byFault(1));
            due("the rank 19 of 19 pairs", -1, () -> lined(TWENTY).byFault(19));
            due("the rank 20 of 19 pairs", -1, () -> lined(TWENTY).byFault(20));
            due("the greatest rank", -1, () -> lined(TWENTY).byFault(HIGHEST));
            due("an empty line", -1, () -> new SignLetters().byFault(0));
            due("a line without pairs", -1, () -> lined("A_B").byFault(0));
        });
        promise(19, "Throws `IllegalArgumentException` if rank is below 0", () -> {
            due("-1", ARGUMENT, () -> lined("JA").byFault(-1));
            due("the least of all", ARGUMENT, () -> lined("JA").byFault(LOWEST));
            due("-1 of an empty line", ARGUMENT, () -> new SignLetters().byFault(-1));
        });
    }

    private static void counted(String words, int what, String[] lines, int[] numbers) {
        promise(20, words, () -> {
            for (int i = 0; i < lines.length; i++) {
                SignLetters sign = lines[i].isEmpty() ? new SignLetters() : lined(lines[i]);
                due("of \"" + lines[i] + "\"", numbers[i], () -> sign.count(what));
            }
        });
    }

    private static void countItems() {
        counted("0: items", 0, new String[] {"", "_", "A+5", TWENTY, BLANKS}, new int[] {0, 1, 1, 20, 20});
        counted("1: letters", 1, new String[] {"", "_", "A+5", TWENTY, BLANKS, "_A_"}, new int[] {0, 0, 1, 20, 0, 1});
        counted("2: pairs", 2, new String[] {"", "A", "A_B", "JA", TWENTY, BLANKS}, new int[] {0, 0, 0, 1, 19, 0});
        counted("3: faults", 3, new String[] {"", "A_B", "JA", "JA+1", "JA-5_JA+5"}, new int[] {0, 0, 0, 1, 2});
        counted("4: the width of the line", 4, new String[] {"", "_", "A", "JA", "JA_", BLANKS},
            new int[] {0, 8, 6, 18, 26, 160});
        promise(20, "4: the width of the line", () -> {
            due("that does not fit", 51, () -> boarded("___", 50, 2, 17).count(4));
            due("of 20 blanks 30 wide", 600, () -> boarded(BLANKS, 50, 2, 30).count(4));
        });
        promise(20, "6: the length of the board", () -> {
            due("at first", 300, () -> new SignLetters().count(6));
            due("the least", 50, () -> boarded("A", 50).count(6));
            due("the greatest", 600, () -> boarded("A", 600).count(6));
        });
        promise(20, "9 to 14: the settings 0 to 5", () -> {
            due("at first", "1 20 8 60 1 15", () -> counts(new SignLetters(), 9, 14));
            due("the least", "0 5 1 10 1 0",
                () -> counts(lined("A", 0, 0, 1, 5, 2, 1, 3, 10, 4, 1, 5, 0), 9, 14));
            due("the greatest", "4 40 30 300 12 100",
                () -> counts(lined("A", 0, 4, 1, 40, 2, 30, 3, 300, 4, 12, 5, 100), 9, 14));
        });
        promise(20, "15: saved states", () -> {
            SignLetters sign = new SignLetters();
            int[] saved = {0, 1, 2, 3, 4, 5, 6, 6, 6};
            for (int want : saved) {
                due("saved states", want, () -> sign.count(15));
                sign.board(50);
            }
            sign.undo();
            due("saved states behind undo", 5, () -> sign.count(15));
        });
    }

    private static void countWidths() {
        promise(20, "5: its margin, NONE if it does not fit", () -> {
            // Five blanks, 10 wide, are 50; three, 17 wide, 51.
            due("just fitting", 0, () -> boarded("_____", 50, 2, 10).count(5));
            due("one too wide", -1, () -> boarded("___", 50, 2, 17).count(5));
            due("far too wide", -1, () -> boarded(BLANKS, 50, 2, 30).count(5));
            due("of an empty line", 300, () -> {
                SignLetters sign = new SignLetters();
                sign.board(600);
                return sign.count(5);
            });
        });
        counted("7: the least area of a pair, NONE without pairs", 7,
            new String[] {"", "A", "A_B", "JA", "JA+1_JA-1_JA", "JA+3_JA+2"}, new int[] {-1, -1, -1, 60, 50, 80});
        counted("8: the greatest one, NONE without pairs", 8,
            new String[] {"", "A", "A_B", "JA", "JA-1_JA+1_JA", "JA-3_JA-2"}, new int[] {-1, -1, -1, 60, 70, 40});
    }

    private static void countRefused() {
        promise(20, "Throws `IllegalArgumentException` if what is not 0 to 15", () -> {
            refusedBeside(ARGUMENT, 0, 15, what -> lined("JA").count(what));
            due("0", 2, () -> lined("JA").count(0));
            due("15", 1, () -> lined("JA").count(15));
        });
    }

    // ---- what would be

    private static void ifSet() {
        promise(21, "Tells what another setting would bring.", () -> {
            String line = "JA+2_ABCD-1__EF";
            int[] least = {0, 5, 1, 10, 1, 0};
            int[] most = {4, 40, 30, 300, 12, 100};
            for (int i = 0; i < 6; i++) {
                for (int value : new int[] {least[i], least[i] + 1, most[i] - 1, most[i]}) {
                    int setting = i;
                    SignLetters other = lined(line, setting, value);
                    String due = other.count(3) + " " + other.count(4);
                    due("the setting " + i + " by " + value, due, () -> {
                        SignLetters sign = lined(line);
                        return sign.ifSet(setting, value, 0) + " " + sign.ifSet(setting, value, 1);
                    });
                }
            }
            SignLetters sign = lined("JA");
            long before = sign.digest();
            sign.ifSet(3, 300, 1);
            due("nothing is changed", before, sign::digest);
            due("a line that does not fit has its width", 210, () -> boarded("_______", 50).ifSet(2, 30, 1));
        });
        promise(21, "`setting`: 0 to 5", () -> {
            due("0", 18, () -> lined("JA").ifSet(0, 4, 1));
            due("5", 0, () -> lined("JA+1").ifSet(5, 16, 0));
        });
        promise(21, "`what`: 0: faults; 1: the width of the line", () -> {
            due("0", 1, () -> lined("JA+1").ifSet(5, 15, 0));
            due("1", 19, () -> lined("JA+1").ifSet(5, 15, 1));
            due("0 of an empty line", 0, () -> new SignLetters().ifSet(5, 0, 0));
            due("1 of an empty line", 0, () -> new SignLetters().ifSet(2, 30, 1));
        });
    }

    private static void ifSetRefused() {
        promise(21, "Throws `IndexOutOfBoundsException` if there is no such setting", () -> {
            refusedBeside(INDEX, 0, 5, setting -> lined("JA").ifSet(setting, 10, 0));
            refusedBeside(INDEX, 0, 5, setting -> lined("JA").ifSet(setting, -1, 2));
        });
        promise(21, "`value`: in its range", () -> {
            due("the least blank", 13, () -> lined("A_A").ifSet(2, 1, 1));
            due("the greatest blank", 42, () -> lined("A_A").ifSet(2, 30, 1));
            due("the least share", 1, () -> lined("JA+1").ifSet(5, 0, 0));
            due("the greatest share", 0, () -> lined("JA+1").ifSet(5, 100, 0));
        });
        promise(21, "Throws `IllegalArgumentException` if value is out of range", () -> {
            int[] least = {0, 5, 1, 10, 1, 0};
            int[] most = {4, 40, 30, 300, 12, 100};
            for (int i = 0; i < 6; i++) {
                int setting = i;
                refusedBeside(ARGUMENT, least[i], most[i], value -> lined("JA").ifSet(setting, value, 1));
            }
        });
        promise(21, "or what is neither 0 nor 1",
            () -> refusedBeside(ARGUMENT, 0, 1, what -> lined("JA").ifSet(0, 0, what)));
    }

    private static void greatestArea() {
        promise(22, "Returns of 10, 20, 30 and so on to 300 the greatest one", () -> {
            // BA is 13, the gap, and 6 wide: on a board of 50 the gap may be 31, by rows of 40.
            due("an empty line", 300, () -> new SignLetters().greatestArea());
            due("a line without pairs", 300, () -> lined("A_B").greatestArea());
            due("a gap of 30 fits", 300, () -> boarded("BA", 50, 1, 40).greatestArea());
            due("a gap of 31 just fits", 300, () -> boarded("BA+1", 50, 1, 40).greatestArea());
            due("a gap of 32 does not fit", 290, () -> boarded("BA+2", 50, 1, 40).greatestArea());
            due("by rows of 20 no gap brings 210", 200, () -> boarded("BA", 50).greatestArea());
            due("whatever the wanted area is", "290 300", () -> {
                SignLetters sign = boarded("BA+2", 50, 1, 40, 3, 300);
                return sign.greatestArea() + " " + sign.count(12);
            });
            // With a blank 30 wide behind it BA is 49 and the gap wide.
            due("a gap of 1 just fits", 10, () -> boarded("BA_", 50, 2, 30).greatestArea());
            due("a gap of 2 is kerned to 1", 20, () -> boarded("BA-1_", 50, 2, 30).greatestArea());
        });
        promise(22, "NONE if it fits with none.", () -> {
            due("a gap of 1 is kerned to 2", -1, () -> boarded("BA+1_", 50, 2, 30).greatestArea());
            due("blanks that are too wide", -1, () -> boarded("__", 50, 2, 30).greatestArea());
            due("blanks that just fit", 300, () -> boarded("_____", 50, 2, 10).greatestArea());
            due("letters that are too wide", -1, () -> boarded("FBFB", 50).greatestArea());
        });
    }

    private static int searchedSnap(SignLetters sign) {
        int best = 12;
        for (int snap = 11; snap >= 1; snap--) {
            best = sign.ifSet(4, snap, 0) < sign.ifSet(4, best, 0) ? snap : best;
        }
        return best;
    }

    private static void bestSnap() {
        promise(23, "Returns of the snaps 1 to 12 the one with the fewest faults", () -> {
            // BA: A begins at 19, of which no snap but 1 has a multiple; JA by 50: at 11.
            due("1", 1, () -> lined("BA").bestSnap());
            due("11", 11, () -> lined("JA", 3, 50).bestSnap());
            due("12", 12, () -> lined("JA").bestSnap());
            due("whatever the snap is", "1 7", () -> {
                SignLetters sign = lined("BA", 4, 7);
                return sign.bestSnap() + " " + sign.count(13);
            });
            for (String line : new String[] {"BA_JA+1", "ABCDEFGHIJ", "JA-5_AB+3BAD", TWENTY, "_BA__VU+2M"}) {
                due("of " + line, searchedSnap(lined(line, 5, 30)), () -> lined(line, 5, 30).bestSnap());
            }
        });
        promise(23, "of several the greatest.", () -> {
            due("an empty line", 12, () -> new SignLetters().bestSnap());
            due("a line without pairs", 12, () -> lined("A_B").bestSnap());
            due("all alike without faults", 12, () -> lined("BA", 5, 100).bestSnap());
            due("all alike with a fault", 12, () -> lined("JA", 1, 5).bestSnap());
            due("1, 2, 4, 5 and 10 alike", 10, () -> lined("BA", 5, 16).bestSnap());
        });
    }

    private static void bestKern() {
        promise(24, "Returns the kern, -5 to 5, by which its share is the least, all else as it is", () -> {
            due("0", 10, () -> lined("JA").bestKern(1));
            // AB is 66 by the gap 3, and 56 by 2.
            due("-1", 9, () -> lined("AB").bestKern(1));
            // CA is 76 by the gap 6, and begins at 17: only by -5 can it stand at 12 and not at 24.
            due("-5", 5, () -> lined("CA", 3, 70, 4, 12).bestKern(1));
            due("its own kern does not matter", "9 15", () -> {
                SignLetters sign = lined("AB+5");
                return sign.bestKern(1) + " " + sign.item(1, 1);
            });
            due("the letter ahead stays where it is", "-1 10 9", () -> {
                SignLetters sign = lined("JA+5B");
                return sign.bestKern(0) + " " + sign.bestKern(1) + " " + sign.bestKern(2);
            });
        });
        promise(24, "of several the one nearest to 0", () -> {
            // AA by 63: 68 by the gap 5, and 58 by 4.
            due("0 and -1 alike", 10, () -> lined("AA", 3, 63).bestKern(1));
            due("all alike", 10, () -> lined("JA", 1, 5).bestKern(1));
            // By the snap 9 the A of BA begins at 27; by -1 to -5 at 18.
            due("-1 to -5 alike", 9, () -> lined("BA", 4, 9).bestKern(1));
            // By the snap 8 it begins at 24; by -3 to -5 at 16.
            due("-3 to -5 alike", 7, () -> lined("BA", 4, 8).bestKern(1));
        });
        promise(24, "of two of those the one above 0; and 10 more", () -> {
            // A kern above 0 is never better than 0, for by 0 the area is already enough, or all rows are full.
            due("4 and -4 alike, 0 as well", 10, () -> lined("JA+4", 1, 5).bestKern(1));
        });
        promise(24, "NONE if no pair ends there.", () -> {
            due("the first letter", -1, () -> lined("JA").bestKern(0));
            due("a kerned letter alone", -1, () -> lined("J+5").bestKern(0));
            due("a letter behind a blank", -1, () -> lined("J_A").bestKern(2));
            due("a blank behind a letter", -1, () -> lined("J_A").bestKern(1));
            due("a first blank", -1, () -> lined("_").bestKern(0));
        });
        promise(24, "Throws `IndexOutOfBoundsException` if there is no such item", () -> {
            due("of an empty line", INDEX, () -> new SignLetters().bestKern(0));
            refusedBeside(INDEX, 0, 1, place -> lined("JA").bestKern(place));
            refusedBeside(INDEX, 0, 19, place -> lined(TWENTY).bestKern(place));
        });
    }

    private static void even() {
        promise(25, "Returns the pairs that are no faults, as a double, divided by all pairs", () -> {
            due("none of one", 0.0, () -> lined("JA+1").even());
            due("one of one", 1.0, () -> lined("JA").even());
            due("one of two", 0.5, () -> lined("JA_JA+1").even());
            due("two of three", 2.0 / 3.0, () -> lined("JA_JA_JA+1").even());
            due("a share that is just allowed", 1.0, () -> lined("JA+1", 5, 16).even());
        });
        promise(25, "1.0 without pairs.", () -> {
            due("an empty line", 1.0, () -> new SignLetters().even());
            due("one letter", 1.0, () -> lined("A").even());
            due("letters between blanks", 1.0, () -> lined("_A_B_").even());
        });
    }

    private static void digest() {
        promise(26, "The hash starts at 3697. For each value v of the following list, in order, the hash becomes "
            + "31 * hash + v, in long arithmetic with overflow.", () -> {
                // Both were worked out by hand from the list.
                due("an empty line", -4418951372487152439L, () -> new SignLetters().digest());
                due("JA+1, and the buffer !~", -804531430563850134L, () -> {
                    SignLetters sign = lined("JA+1");
                    type(sign, "!~");
                    return sign.digest();
                });
            });
        promise(26, "The values are: count(0) to count(15)", () -> {
            for (SignLetters sign : new SignLetters[] {boarded("__", 50, 2, 30), boarded("JA+1_JA-1", 600, 5, 100),
                lined("JA", 0, 4, 1, 40, 2, 30, 3, 300, 4, 12, 5, 0), boarded("JA", 51)}) {
                due("by the counts " + counts(sign), spelled(sign, ""), sign::digest);
            }
        });
        promise(26, "for each item its numbers 0 to 8, and bestKern; for each pair, by ranks from 0 on, byArea and "
            + "byFault", () -> {
                for (String line : new String[] {"A", "_", BLANKS, TWENTY, "A+5_B-5CD", "_JA-1_JA+1_JA_"}) {
                    SignLetters sign = lined(line, 4, 2);
                    due("of " + line, spelled(sign, ""), sign::digest);
                    due("of " + line + " once more", spelled(sign, ""), sign::digest);
                }
            });
        promise(26, "the indents of the shapes 0 to 3 in the rows 0 and 9", () -> {
            for (int brush = 0; brush <= 4; brush++) {
                SignLetters sign = lined("JA", 0, brush);
                due("by the brush " + brush, spelled(sign, ""), sign::digest);
            }
        });
        promise(26, "ifSet of the setting 4 and the value 5 with 0 and 1; greatestArea; bestSnap", () -> {
            due("a line that no wanted area fits", -1, () -> boarded("__", 50, 2, 30).greatestArea());
            for (SignLetters sign : new SignLetters[] {boarded("__", 50, 2, 30), boarded("BA+2", 50, 1, 40),
                lined("BA", 4, 7), lined("JA", 3, 50), lined("BA", 5, 16)}) {
                due("of " + stateOf(sign), spelled(sign, ""), sign::digest);
            }
        });
        promise(26, "the length of the buffer and each of its character codes.", () -> {
            for (String text : new String[] {"", "!", "~", "A+", TWENTY + TWENTY + TWENTY}) {
                SignLetters sign = lined("JA");
                type(sign, text);
                due("of the buffer " + text, spelled(sign, text), sign::digest);
                sign.clearBuffer();
                due("of the buffer cleared", spelled(sign, ""), sign::digest);
            }
        });
    }

    private static void digestBits() {
        promise(26, "the bits of even (as Double.doubleToLongBits)", () -> {
            for (int pairs = 1; pairs <= 19; pairs++) {
                SignLetters sign = lined(TWENTY.substring(0, pairs + 1));
                for (int faults = 0; faults <= pairs; faults++) {
                    if (faults > 0) {
                        sign.kern(faults, 5);
                    }
                    due(faults + " faults of " + pairs, spelled(sign, ""), sign::digest);
                }
            }
        });
    }
}
