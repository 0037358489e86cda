import java.util.function.Supplier;

/** Each promise by itself: ordinary calls, the edges that the document names, and wrong arguments. */
final class PromisesTest extends Signs {
    public static void main(String[] args) {
        promise1NewObject();
        promise2Put();
        promise2PutFull();
        promise3Drop();
        promise4Swap();
        promise5Kern();
        promise6Board();
        promise7Set();
        promise8Append();
        promise9ClearBuffer();
        promise10FirstError();
        promise11Line();
        promise11LineKeepsTheRest();
        promise12Undo();
        promise12UndoOfEachMethod();
        promise12NothingSavedByAnException();
        promise13And14KeepRestore();
        promise15Letter();
        promise16Indent();
        promise17ItemPairs();
        promise17ItemLimits();
        promise17ItemSnapAndBlanks();
        promise17ItemWrong();
        promise18ByArea();
        promise19ByFault();
        promise20Count();
        promise21IfSet();
        promise22GreatestArea();
        promise23BestSnap();
        promise24BestKern();
        promise25Even();
        promise26Digest();
        CHECKS.end();
    }

    private static void promise1NewObject() {
        SignLetters sign = new SignLetters();
        due("counts of a new object", "0 0 0 0 0 150 300 -1 -1 1 20 8 60 1 15 0", () -> counts(sign));
        due("a new object's buffer", 0, sign::clearBuffer);
        due("a new object's snapshot", STATE, sign::restore);
        due("a new object's saved states", STATE, sign::undo);
        due("NONE", -1, () -> SignLetters.NONE);
    }

    private static void promise2Put() {
        SignLetters sign = new SignLetters();
        due("put at 1 of none", INDEX, () -> sign.put(1, 0));
        due("put a first letter", 1, () -> sign.put(0, 2));
        due("put behind", 2, () -> sign.put(1, 25));
        due("put ahead", 3, () -> sign.put(0, 0));
        due("put a blank between", 4, () -> sign.put(1, SignLetters.NONE));
        due("the line", "A_CZ", () -> textOf(sign));
        sign.kern(2, 3);
        due("put ahead of a kern", 5, () -> sign.put(2, 1));
        due("a kern moves with its letter, a new letter has none", "A_BC+3Z", () -> textOf(sign));
        due("put below 0", INDEX, () -> sign.put(-1, 0));
        due("put past the end", INDEX, () -> sign.put(6, 0));
        due("put far past the end", INDEX, () -> sign.put(HIGHEST, 0));
        due("put far below 0", INDEX, () -> sign.put(LOWEST, 0));
        due("put letter 26", ARGUMENT, () -> sign.put(0, 26));
        due("put letter -2", ARGUMENT, () -> sign.put(0, -2));
        due("put both wrong", INDEX, () -> sign.put(6, 26));
        due("the line after that", "A_BC+3Z", () -> textOf(sign));
    }

    private static void promise2PutFull() {
        SignLetters sign = lined("ABCDEFGHIJKLMNOPQRS");
        due("put the 20th", 20, () -> sign.put(19, 19));
        due("put a 21st", STATE, () -> sign.put(0, 0));
        due("put a 21st at the end", STATE, () -> sign.put(20, 0));
        due("put wrong letter in a full line", ARGUMENT, () -> sign.put(20, 26));
        due("put at a wrong place in a full line", INDEX, () -> sign.put(21, 26));
        due("the full line", "ABCDEFGHIJKLMNOPQRST", () -> textOf(sign));
    }

    private static void promise3Drop() {
        SignLetters sign = lined("AB+1C-2_D+5");
        due("drop between", 4, () -> sign.drop(1));
        due("kerns go with their letters", "AC-2_D+5", () -> textOf(sign));
        due("drop the last", 3, () -> sign.drop(3));
        due("drop the first", 2, () -> sign.drop(0));
        due("what is left", "C-2_", () -> textOf(sign));
        due("drop past the end", INDEX, () -> sign.drop(2));
        due("drop below 0", INDEX, () -> sign.drop(-1));
        due("drop far past the end", INDEX, () -> sign.drop(HIGHEST));
        sign.drop(0);
        due("drop the only one", 0, () -> sign.drop(0));
        due("drop of an empty line", INDEX, () -> sign.drop(0));
        sign.put(0, 2);
        due("a letter put anew has no kern", "C", () -> textOf(sign));
    }

    private static void promise4Swap() {
        // AB: B at 6 + 3, ends 22; C behind B: gap 5, 27 to 38. BAC: A at 19 to 25, C: gap 3, 28 to 39.
        SignLetters sign = lined("ABC");
        due("the width before", 38, () -> sign.count(4));
        due("swap", 39, () -> sign.swap(0, 1));
        due("the line swapped", "BAC", () -> textOf(sign));
        due("swap back, the other way", 38, () -> sign.swap(1, 0));
        due("swap with itself", 38, () -> sign.swap(2, 2));
        due("each swap saves a state", 4, () -> sign.count(15));
        due("swap past the end", INDEX, () -> sign.swap(0, 3));
        due("swap from past the end", INDEX, () -> sign.swap(3, 0));
        due("swap below 0", INDEX, () -> sign.swap(-1, 0));
        due("swap with below 0", INDEX, () -> sign.swap(0, -1));
        SignLetters kerned = lined("AB+2_D-3");
        kerned.swap(1, 3);
        due("kerns go with their letters", "AD-3_B+2", () -> textOf(kerned));
        kerned.swap(1, 2);
        due("a blank leaves no kern", "A_D-3B+2", () -> textOf(kerned));
    }

    private static void promise5Kern() {
        SignLetters sign = lined("AB_C");
        due("the first kern", 10, () -> sign.kern(1, 5));
        due("the kern before", 15, () -> sign.kern(1, -5));
        due("the kern before that", 5, () -> sign.kern(1, 0));
        due("a kern at the place 0", 10, () -> sign.kern(0, 2));
        due("a kern behind a blank", 10, () -> sign.kern(3, -1));
        due("the kerned line", "A+2B_C-1", () -> textOf(sign));
        due("kern past the end", INDEX, () -> sign.kern(4, 0));
        due("kern below 0", INDEX, () -> sign.kern(-1, 0));
        due("kern past the end and too great", INDEX, () -> sign.kern(4, 6));
        due("kern 6", ARGUMENT, () -> sign.kern(0, 6));
        due("kern -6", ARGUMENT, () -> sign.kern(0, -6));
        due("kern 6 of a blank", ARGUMENT, () -> sign.kern(2, 6));
        due("kern of a blank", STATE, () -> sign.kern(2, 0));
        due("the line after that", "A+2B_C-1", () -> textOf(sign));
    }

    private static void promise6Board() {
        SignLetters sign = new SignLetters();
        due("the first board", 300, () -> sign.board(50));
        due("the board before", 50, () -> sign.board(600));
        due("the board of now", 600, () -> sign.count(6));
        due("board 49", ARGUMENT, () -> sign.board(49));
        due("board 601", ARGUMENT, () -> sign.board(601));
        due("board far too short", ARGUMENT, () -> sign.board(LOWEST));
        due("the board stays", 600, () -> sign.count(6));
    }

    private static void promise7Set() {
        int[] least = {0, 5, 1, 10, 1, 0};
        int[] most = {4, 40, 30, 300, 12, 100};
        int[] first = {1, 20, 8, 60, 1, 15};
        SignLetters sign = new SignLetters();
        for (int i = 0; i < 6; i++) {
            int setting = i;
            due("set " + i + " to its least", first[i], () -> sign.set(setting, least[setting]));
            due("set " + i + " to its most", least[i], () -> sign.set(setting, most[setting]));
            due("set " + i + " below", ARGUMENT, () -> sign.set(setting, least[setting] - 1));
            due("set " + i + " above", ARGUMENT, () -> sign.set(setting, most[setting] + 1));
            due("set " + i + " far below", ARGUMENT, () -> sign.set(setting, LOWEST));
            due("set " + i + " far above", ARGUMENT, () -> sign.set(setting, HIGHEST));
            due("setting " + i + " of now", most[i], () -> sign.count(9 + setting));
        }
        due("set 6", INDEX, () -> sign.set(6, 1));
        due("set -1", INDEX, () -> sign.set(-1, 1));
        due("set 6 to a wrong value", INDEX, () -> sign.set(6, -1));
    }

    private static void promise8Append() {
        SignLetters sign = new SignLetters();
        due("append 33", 1, () -> sign.append(33));
        due("append 126", 2, () -> sign.append(126));
        due("append 32", ARGUMENT, () -> sign.append(32));
        due("append 127", ARGUMENT, () -> sign.append(127));
        due("append -1", ARGUMENT, () -> sign.append(-1));
        due("append 65 and 65536", ARGUMENT, () -> sign.append(65601));
        for (int length = 3; length <= 60; length++) {
            due("append number " + length, length, () -> sign.append('A'));
        }
        due("append number 61", STATE, () -> sign.append('A'));
        due("append a wrong number 61", ARGUMENT, () -> sign.append(32));
        due("no state is saved by it", 0, () -> sign.count(15));
        due("the length stays", 60, sign::clearBuffer);
    }

    private static void promise9ClearBuffer() {
        SignLetters sign = new SignLetters();
        due("clear an empty buffer", 0, sign::clearBuffer);
        type(sign, "AB");
        due("clear two", 2, sign::clearBuffer);
        due("clear again", 0, sign::clearBuffer);
        due("append after that", 1, () -> sign.append('C'));
        due("no state is saved by it", 0, () -> sign.count(15));
    }

    private static void promise10FirstError() {
        String twenty = "AAAAAAAAAAAAAAAAAAAA";
        Object[][] texts = {
            {"", 0}, {"A", 1}, {"Z", 1}, {"_", 1}, {"A_B", 3}, {"A+", 2}, {"A-", 2}, {"A+1", 3}, {"A-5", 3},
            {"A+5B-1_", 7}, {"__", 2}, {"a", 0}, {"@", 0}, {"[", 0}, {"Aa", 1}, {"A+0", 2}, {"A-6", 2},
            {"A+A", 2}, {"A++", 2}, {"A+_", 2}, {"A+5+", 3}, {"A+55", 3}, {"A1", 1}, {"_+1", 1}, {"_-", 1},
            {"+A", 0}, {"1", 0}, {"A!A!", 1}, {"^", 0}, {"`", 0}, {"A,1", 1}, {"A.", 1},
            {twenty, 20}, {twenty + "A", 20}, {twenty + "_", 20}, {twenty + "+", 21}, {twenty + "+3", 22},
            {twenty + "+3_", 22}, {twenty + "+3A", 22}, {"____________________", 20}, {"____________________+", 20},
        };
        for (Object[] text : texts) {
            SignLetters sign = new SignLetters();
            type(sign, (String) text[0]);
            due("firstError of " + text[0], text[1], sign::firstError);
        }
        SignLetters full = new SignLetters();
        for (int i = 0; i < 20; i++) {
            type(full, "A+5");
        }
        due("firstError of a full buffer", 60, full::firstError);
        due("twenty kerned letters", 20, full::line);
    }

    private static void promise11Line() {
        SignLetters sign = new SignLetters();
        due("line of an empty buffer", ARGUMENT, sign::line);
        type(sign, "A+1B-5_Z");
        due("line", 4, sign::line);
        due("the items", "A+1B-5_Z", () -> textOf(sign));
        due("the buffer is empty then", 0, sign::clearBuffer);
        type(sign, "_");
        due("a line in place of the one before", 1, sign::line);
        due("its items", "_", () -> textOf(sign));
        for (String text : new String[] {"A+", "A-", "a", "Aa", "A+0", "_+1", "AAAAAAAAAAAAAAAAAAAAA"}) {
            type(sign, text);
            due("line of " + text, ARGUMENT, sign::line);
            due("the buffer stays", text.length(), sign::clearBuffer);
        }
        due("its items after that", "_", () -> textOf(sign));
        due("states saved", 2, () -> sign.count(15));
    }

    private static void promise11LineKeepsTheRest() {
        SignLetters sign = new SignLetters();
        sign.board(77);
        sign.set(4, 5);
        sign.put(0, 3);
        sign.kern(0, 4);
        type(sign, "AA");
        sign.line();
        due("the board stays", 77, () -> sign.count(6));
        due("the snap stays", 5, () -> sign.count(13));
        due("letters of a line have no older kern", "AA", () -> textOf(sign));
    }

    private static void promise12Undo() {
        SignLetters sign = new SignLetters();
        for (int i = 0; i < 8; i++) {
            sign.put(i, i);
        }
        due("six states at most", 6, () -> sign.count(15));
        for (int left = 5; left >= 0; left--) {
            due("undo to " + left, left, sign::undo);
        }
        due("the oldest two are dropped", "AB", () -> textOf(sign));
        due("no state is left", STATE, sign::undo);
        due("the line stays", "AB", () -> textOf(sign));
        sign.put(2, 2);
        sign.put(3, 3);
        sign.undo();
        sign.put(3, 4);
        due("the line after undo and put", "ABCE", () -> textOf(sign));
        due("the states after undo and put", 2, () -> sign.count(15));
        sign.undo();
        due("undo of that", "ABC", () -> textOf(sign));
    }

    private static void promise12UndoOfEachMethod() {
        SignLetters sign = lined("AB+2C");
        String[] before = {counts(sign), textOf(sign)};
        sign.keep();
        type(sign, "DD");
        Object[][] changes = {
            {"put", (Supplier<Integer>) () -> sign.put(1, 4)}, {"drop", (Supplier<Integer>) () -> sign.drop(0)},
            {"swap", (Supplier<Integer>) () -> sign.swap(0, 2)}, {"kern", (Supplier<Integer>) () -> sign.kern(1, 2)},
            {"board", (Supplier<Integer>) () -> sign.board(50)}, {"set", (Supplier<Integer>) () -> sign.set(5, 1)},
            {"line", (Supplier<Integer>) sign::line}, {"restore", (Supplier<Integer>) sign::restore},
            {"swap with itself", (Supplier<Integer>) () -> sign.swap(1, 1)},
            {"the same board", (Supplier<Integer>) () -> sign.board(300)},
            {"the same setting", (Supplier<Integer>) () -> sign.set(0, 1)},
        };
        for (Object[] change : changes) {
            ((Supplier<?>) change[1]).get();
            due(change[0] + " saves a state", 2, () -> sign.count(15));
            due("undo of " + change[0], 1, sign::undo);
            due("the counts after undo of " + change[0], before[0], () -> counts(sign));
            due("the line after undo of " + change[0], before[1], () -> textOf(sign));
        }
        due("undo leaves the buffer as it is", 0, sign::clearBuffer);
        type(sign, "E");
        sign.undo();
        due("undo leaves the buffer", 1, sign::clearBuffer);
        due("undo leaves the snapshot", 3, sign::restore);
    }

    private static void promise12NothingSavedByAnException() {
        SignLetters sign = lined("A_");
        type(sign, "a");
        due("put", INDEX, () -> sign.put(3, 0));
        due("drop", INDEX, () -> sign.drop(2));
        due("swap", INDEX, () -> sign.swap(0, 2));
        due("kern", STATE, () -> sign.kern(1, 0));
        due("board", ARGUMENT, () -> sign.board(0));
        due("set", ARGUMENT, () -> sign.set(0, 5));
        due("line", ARGUMENT, sign::line);
        due("restore", STATE, sign::restore);
        due("saved states", 1, () -> sign.count(15));
    }

    private static void promise13And14KeepRestore() {
        SignLetters sign = new SignLetters();
        due("restore without a snapshot", STATE, sign::restore);
        due("keep an empty line", 0, sign::keep);
        due("keep saves no state", 0, () -> sign.count(15));
        type(sign, "AB+3_");
        sign.line();
        sign.board(99);
        sign.set(3, 70);
        due("restore an empty line", 0, sign::restore);
        due("the board of the snapshot", 300, () -> sign.count(6));
        due("the setting of the snapshot", 60, () -> sign.count(12));
        due("restore saves a state", 4, () -> sign.count(15));
        sign.undo();
        due("keep in place of the one before", 3, sign::keep);
        sign.drop(0);
        sign.kern(0, 1);
        due("restore", 3, sign::restore);
        due("the line of the snapshot", "AB+3_", () -> textOf(sign));
        due("its board", 99, () -> sign.count(6));
        due("its setting", 70, () -> sign.count(12));
        sign.drop(0);
        due("the snapshot stays", 3, sign::restore);
        due("saved states are no part of it", 6, () -> sign.count(15));
        type(sign, "C");
        sign.restore();
        due("the buffer is no part of it", 1, sign::clearBuffer);
    }

    private static void promise15Letter() {
        SignLetters sign = new SignLetters();
        int[][] letters = {{0, 6, 0, 1}, {1, 13, 1, 0}, {2, 11, 2, 3}, {3, 9, 3, 2}, {4, 7, 0, 1}, {5, 14, 1, 0},
            {6, 12, 2, 3}, {9, 6, 1, 0}, {23, 14, 3, 2}, {25, 10, 1, 0}};
        for (int[] letter : letters) {
            for (int i = 0; i < 3; i++) {
                int what = i;
                due("letter " + letter[0] + ", " + i, letter[i + 1], () -> sign.letter(letter[0], what));
            }
        }
        due("letter 26", INDEX, () -> sign.letter(26, 0));
        due("letter -1", INDEX, () -> sign.letter(-1, 0));
        due("letter 26, 3", INDEX, () -> sign.letter(26, 3));
        due("letter 0, 3", ARGUMENT, () -> sign.letter(0, 3));
        due("letter 0, -1", ARGUMENT, () -> sign.letter(0, -1));
    }

    private static void promise16Indent() {
        int[][] plain = {{0, 0, 0, 0, 0, 0, 0, 0, 0, 0}, {4, 3, 2, 1, 0, 0, 1, 2, 3, 4},
            {0, 0, 1, 1, 2, 2, 3, 3, 4, 4}, {0, 0, 0, 4, 4, 4, 4, 0, 0, 0}};
        SignLetters sign = new SignLetters();
        for (int b = 0; b <= 4; b++) {
            int brush = b;
            sign.set(0, brush);
            for (int i = 0; i < 40; i++) {
                int shape = i / 10;
                int line = i % 10;
                boolean serif = line == 0 || line == 9;
                int want = serif ? Math.max(0, plain[shape][line] - brush) : plain[shape][line];
                due("indent " + shape + ", " + line + " by the brush " + b, want, () -> sign.indent(shape, line));
            }
        }
        due("shape 4", INDEX, () -> sign.indent(4, 0));
        due("shape -1", INDEX, () -> sign.indent(-1, 0));
        due("row 10", INDEX, () -> sign.indent(0, 10));
        due("row -1", INDEX, () -> sign.indent(0, -1));
        due("row far too great", INDEX, () -> sign.indent(3, HIGHEST));
    }

    private static void promise17ItemPairs() {
        // The indents by the brush 1 add up to: round 18, slanted 19, open 16.
        // AB 36 + 30; BC 19 + 50; CA 16 + 50; AA 18 + 50; AD 34 + 30.
        SignLetters sign = lined("ABCAAD");
        due("letters", "0 1 2 0 0 3", () -> row(sign, 0));
        due("kerns", "10 10 10 10 10 10", () -> row(sign, 1));
        due("begins", "0 9 27 43 54 63", () -> row(sign, 2));
        due("ends", "6 22 38 49 60 72", () -> row(sign, 3));
        due("gaps", "-1 3 5 5 5 3", () -> row(sign, 4));
        due("areas", "-1 66 69 66 68 64", () -> row(sign, 5));
        due("counted", "-1 66 69 66 68 64", () -> row(sign, 6));
        due("shares", "-1 10 15 10 13 6", () -> row(sign, 7));
        due("a share of 15 is no fault by 15", "-1 0 0 0 0 0", () -> row(sign, 8));
        sign.set(5, 14);
        due("a share of 15 is a fault by 14", "-1 0 1 0 0 0", () -> row(sign, 8));
        sign.kern(1, -3);
        sign.kern(2, -5);
        sign.kern(3, 5);
        due("gaps with kerns", "-1 0 0 10 5 3", () -> row(sign, 4));
        due("areas with kerns", "-1 36 19 116 68 64", () -> row(sign, 5));
        due("shares with kerns", "-1 40 68 93 13 6", () -> row(sign, 7));
        sign.kern(1, -5);
        due("a gap is at least 0", 0, () -> sign.item(1, 4));
    }

    private static void promise17ItemLimits() {
        SignLetters none = lined("AB", 1, 5);
        due("no gap brings the area: 40", 40, () -> none.item(1, 4));
        due("its area", 50, () -> none.item(1, 5));
        due("its area counted", 50, () -> none.item(1, 6));
        due("its share, rounded down", 16, () -> none.item(1, 7));
        due("its fault", 1, () -> none.item(1, 8));
        none.kern(1, 5);
        due("40 and the kern", 45, () -> none.item(1, 4));
        SignLetters limited = lined("BD", 1, 6);
        due("the least gap by which all rows are full", 6, () -> limited.item(1, 4));
        due("its area", 60, () -> limited.item(1, 5));
        limited.kern(1, -1);
        due("an area with some rows full", 54, () -> limited.item(1, 5));
        due("the same counted", 54, () -> limited.item(1, 6));
        SignLetters wide = lined("BA", 1, 40);
        wide.set(3, 300);
        due("a wanted area of 300", 30, () -> wide.item(1, 4));
        wide.set(3, 10);
        due("a wanted area of 10", 1, () -> wide.item(1, 4));
        SignLetters half = lined("AB", 3, 10);
        due("a wanted area that is there by 0", 0, () -> half.item(1, 4));
        due("a share above 100", 260, () -> half.item(1, 7));
        SignLetters brushed = lined("AB", 0, 4);
        due("the area by the brush 4, 24 + 40", 64, () -> brushed.item(1, 5));
        due("the gap by the brush 4", 4, () -> brushed.item(1, 4));
        SignLetters exact = lined("BA");
        due("an area that is the wanted one", 60, () -> exact.item(1, 5));
        due("its share", 0, () -> exact.item(1, 7));
    }

    private static void promise17ItemSnapAndBlanks() {
        SignLetters sign = lined("_A_B__AB");
        due("blanks have no kern", "-1 10 -1 10 -1 -1 10 10", () -> row(sign, 1));
        due("begins with blanks", "0 8 14 22 35 43 51 60", () -> row(sign, 2));
        due("ends with blanks", "8 14 22 35 43 51 57 73", () -> row(sign, 3));
        due("gaps with blanks", "-1 -1 -1 -1 -1 -1 -1 3", () -> row(sign, 4));
        due("faults with blanks", "-1 -1 -1 -1 -1 -1 -1 0", () -> row(sign, 8));
        sign.set(4, 4);
        due("begins by the snap 4", "0 8 14 24 37 45 56 68", () -> row(sign, 2));
        due("the gap by the snap 4", 6, () -> sign.item(7, 4));
        due("the area by the snap 4", 96, () -> sign.item(7, 5));
        due("the same counted", 96, () -> sign.item(7, 6));
        due("the share by the snap 4", 60, () -> sign.item(7, 7));
        due("a fault by the snap 4", 1, () -> sign.item(7, 8));
        sign.set(2, 1);
        due("begins by narrow blanks", "0 4 10 12 25 26 28 40", () -> row(sign, 2));
        SignLetters kerned = lined("AB-1");
        kerned.set(4, 8);
        due("a letter on a snap line stays there", 8, () -> kerned.item(1, 2));
        kerned.kern(1, 0);
        due("a letter behind a snap line goes to the next", 16, () -> kerned.item(1, 2));
        SignLetters alone = lined("_A-5");
        due("a kern without a pair moves nothing", 8, () -> alone.item(1, 2));
    }

    private static void promise17ItemWrong() {
        SignLetters sign = lined("AB");
        due("item 2", INDEX, () -> sign.item(2, 0));
        due("item -1", INDEX, () -> sign.item(-1, 0));
        due("item 2, 9", INDEX, () -> sign.item(2, 9));
        due("item 0, 9", ARGUMENT, () -> sign.item(0, 9));
        due("item 0, -1", ARGUMENT, () -> sign.item(0, -1));
        due("looks save no state", 1, () -> sign.count(15));
    }

    private static void promise18ByArea() {
        SignLetters sign = lined("ABCAAD");
        int[] places = {5, 1, 3, 4, 2, -1};
        for (int i = 0; i < places.length; i++) {
            int rank = i;
            due("byArea " + i, places[i], () -> sign.byArea(rank));
        }
        due("byFault ahead of a change", 2, () -> sign.byFault(0));
        sign.drop(5);
        due("byArea behind a change", "1 3 4 2 -1", () -> sign.byArea(0) + " " + sign.byArea(1) + " "
            + sign.byArea(2) + " " + sign.byArea(3) + " " + sign.byArea(4));
        due("byFault behind a change", "2 4 1 3 -1", () -> sign.byFault(0) + " " + sign.byFault(1) + " "
            + sign.byFault(2) + " " + sign.byFault(3) + " " + sign.byFault(4));
        due("byArea far away", -1, () -> sign.byArea(HIGHEST));
        due("byArea -1", ARGUMENT, () -> sign.byArea(-1));
        due("byArea far below", ARGUMENT, () -> sign.byArea(LOWEST));
        due("byArea of an empty line", -1, () -> new SignLetters().byArea(0));
        due("byArea of blanks", -1, () -> lined("A_B").byArea(0));
    }

    private static void promise19ByFault() {
        // Shares: AB 10, BC 15, CA 10, AA 13, AD 6.
        SignLetters sign = lined("ABCAAD");
        int[] places = {2, 4, 1, 3, 5, -1};
        for (int i = 0; i < places.length; i++) {
            int rank = i;
            due("byFault " + i, places[i], () -> sign.byFault(rank));
        }
        // By 100: BA has 10 for each of its gap of 10, AB 36 + 70; a kern of 1 brings or takes 10.
        SignLetters alike = lined("BABABA", 3, 100);
        alike.set(1, 40);
        alike.kern(1, -1);
        alike.kern(3, 1);
        alike.kern(5, 1);
        due("areas of shares alike", "-1 90 106 110 106 110", () -> row(alike, 5));
        due("the share first, then the area, then the place", "3 5 1 2 4", () -> alike.byFault(0) + " "
            + alike.byFault(1) + " " + alike.byFault(2) + " " + alike.byFault(3) + " " + alike.byFault(4));
        due("byFault far away", -1, () -> sign.byFault(HIGHEST));
        due("byFault -1", ARGUMENT, () -> sign.byFault(-1));
        due("byFault of an empty line", -1, () -> new SignLetters().byFault(0));
    }

    private static void promise20Count() {
        SignLetters sign = lined("A_ABCAAD");
        sign.kern(4, 5);
        due("counts", "8 7 5 1 91 104 300 64 119 1 20 8 60 1 15 2", () -> counts(sign));
        sign.board(91);
        due("the margin of a line that just fits", 0, () -> sign.count(5));
        sign.board(94);
        due("a margin rounded down", 1, () -> sign.count(5));
        sign.board(90);
        due("the margin of a line that does not fit", -1, () -> sign.count(5));
        due("the width of a line that does not fit", 91, () -> sign.count(4));
        due("count 16", ARGUMENT, () -> sign.count(16));
        due("count -1", ARGUMENT, () -> sign.count(-1));
        SignLetters blanks = lined("__");
        due("counts of blanks", "2 0 0 0 16 142 300 -1 -1 1 20 8 60 1 15 1", () -> counts(blanks));
        SignLetters different = new SignLetters();
        for (int i = 0; i < 6; i++) {
            different.set(i, new int[] {2, 33, 4, 205, 6, 77}[i]);
        }
        due("counts of settings", "0 0 0 0 0 150 300 -1 -1 2 33 4 205 6 77 6", () -> counts(different));
    }

    private static void promise21IfSet() {
        SignLetters sign = lined("A_AB");
        String before = counts(sign);
        due("the width by the snap 4", 41, () -> sign.ifSet(4, 4, 1));
        due("the faults by the snap 4", 1, () -> sign.ifSet(4, 4, 0));
        due("the width by narrow blanks", 29, () -> sign.ifSet(2, 1, 1));
        due("the faults by a share of 9", 1, () -> sign.ifSet(5, 9, 0));
        due("the faults by a share of 10", 0, () -> sign.ifSet(5, 10, 0));
        due("the width by a wanted area of 200", 53, () -> sign.ifSet(3, 200, 1));
        due("the width by rows of 5", 73, () -> sign.ifSet(1, 5, 1));
        due("the faults by the brush 4", 0, () -> sign.ifSet(0, 4, 0));
        due("the width as it is", 36, () -> sign.ifSet(0, 1, 1));
        due("nothing is changed", before, () -> counts(sign));
        due("ifSet 6", INDEX, () -> sign.ifSet(6, 1, 0));
        due("ifSet -1", INDEX, () -> sign.ifSet(-1, 1, 0));
        due("ifSet 6 and all wrong", INDEX, () -> sign.ifSet(6, -1, 2));
        due("ifSet with a wrong value", ARGUMENT, () -> sign.ifSet(3, 301, 0));
        due("ifSet with what 2", ARGUMENT, () -> sign.ifSet(3, 300, 2));
        due("ifSet with what -1", ARGUMENT, () -> sign.ifSet(3, 300, -1));
    }

    private static void promise22GreatestArea() {
        due("greatestArea of an empty line", 300, () -> new SignLetters().greatestArea());
        // BA ends at 13 + 6 and the gap: 50 is 31 behind it; rows of 40 bring 10 for each of the gap.
        SignLetters sign = lined("BA", 1, 40);
        sign.board(50);
        due("all wanted areas fit", 300, sign::greatestArea);
        sign.kern(1, 5);
        due("a board for a gap of 26", 260, sign::greatestArea);
        due("the wanted area stays", 60, () -> sign.count(12));
        sign.set(1, 20);
        due("a gap of 40 does not fit where no gap brings the area", 200, sign::greatestArea);
        SignLetters long20 = lined("FFFFFFFFFFFFFFFFFFFF");
        long20.board(279);
        due("it fits with none", -1, long20::greatestArea);
        long20.board(299);
        due("a gap of 1 each", 20, long20::greatestArea);
        SignLetters alone = lined("FFFF");
        alone.board(56);
        due("a line that fits with gaps of 0", 10, alone::greatestArea);
    }

    private static void promise23BestSnap() {
        due("bestSnap of an empty line", 12, () -> new SignLetters().bestSnap());
        // BA: A at 19 by 60. A snap spoils it if the next multiple is past 19, for one cell is 10 of 60: 16 in 100.
        SignLetters sign = lined("BA");
        due("bestSnap of snaps that spoil", 1, sign::bestSnap);
        sign.set(5, 16);
        due("bestSnap if a column more is allowed", 10, sign::bestSnap);
        sign.set(5, 100);
        due("bestSnap if all is allowed", 12, sign::bestSnap);
        sign.set(5, 15);
        sign.set(4, 7);
        due("bestSnap whatever the snap is", 1, sign::bestSnap);
        due("the snap stays", 7, () -> sign.count(13));
        SignLetters shorter = lined("AB");
        due("bestSnap of several the greatest", 9, shorter::bestSnap);
    }

    private static void promise24BestKern() {
        SignLetters sign = lined("AB_C");
        due("bestKern of the first", -1, () -> sign.bestKern(0));
        due("bestKern of a blank", -1, () -> sign.bestKern(2));
        due("bestKern behind a blank", -1, () -> sign.bestKern(3));
        // AB: 66 by the gap 3, 56 by 2: shares 10 and 6.
        due("bestKern -1", 9, () -> sign.bestKern(1));
        sign.kern(1, 4);
        due("bestKern is the same by another kern", 9, () -> sign.bestKern(1));
        due("the kern stays", 14, () -> sign.item(1, 1));
        due("bestKern past the end", INDEX, () -> sign.bestKern(4));
        due("bestKern below 0", INDEX, () -> sign.bestKern(-1));
        SignLetters exact = lined("BA+5");
        due("bestKern 0", 10, () -> exact.bestKern(1));
        // By the snap 5 B stands at 10 for the gaps 0 to 4 (area 76), at 15 for 5 to 9.
        SignLetters snapped = lined("AB", 4, 5);
        due("of several the one nearest to 0", 10, () -> snapped.bestKern(1));
        // By the snap 8 BA stands at 24 with 110, by the kern -3 at 16 with 30.
        SignLetters far = lined("BA", 4, 8);
        due("a kern of -3", 7, () -> far.bestKern(1));
        // By the snap 9 A stands at 27 for the gap 6, and at 18 from -1 on.
        SignLetters nine = lined("BA", 4, 9);
        due("a kern of -1", 9, () -> nine.bestKern(1));
        // CA has 16 and 10 for each of its gap: 76 by 6. C ends at 11: only -5 lets A stand at 12 and not at 24.
        SignLetters twelve = lined("CA", 3, 70);
        twelve.set(4, 12);
        due("a kern of -5", 5, () -> twelve.bestKern(1));
        SignLetters many = lined("ABCAAD");
        int[] kerns = {-1, 9, 9, 9, 9, 10};
        for (int i = 0; i < kerns.length; i++) {
            int place = i;
            due("bestKern of the pair " + i, kerns[i], () -> many.bestKern(place));
        }
        // AA by 63: the gap 5 is 68, 4 is 58: both are 5 off, and 0 is nearer than -1.
        SignLetters twins = lined("AA", 3, 63);
        due("of a tie the one nearest to 0", 10, () -> twins.bestKern(1));
        // Rows of 5 are never 300: all gaps from 5 on bring 50.
        SignLetters full = lined("BA", 1, 5);
        due("of ten alike 0", 10, () -> full.bestKern(1));
    }

    private static void promise25Even() {
        due("even of an empty line", 1.0, () -> new SignLetters().even());
        due("even without pairs", 1.0, () -> lined("A_B_").even());
        due("even without faults", 1.0, () -> lined("AB").even());
        due("even of faults alone", 0.0, () -> lined("AB-3").even());
        due("even of one in three", 2.0 / 3.0, () -> lined("BA_BAB+3").even());
        SignLetters sign = lined("ABCAAD", 5, 9);
        due("even of four in five", 1.0 / 5.0, sign::even);
    }

    private static void promise26Digest() {
        SignLetters sign = new SignLetters();
        due("digest of an empty line", spelled(sign, ""), sign::digest);
        type(sign, "ABC-3_DEFG+2A");
        due("digest with a buffer", spelled(sign, "ABC-3_DEFG+2A"), sign::digest);
        sign.line();
        due("digest of a line", spelled(sign, ""), sign::digest);
        sign.set(4, 3);
        sign.set(0, 2);
        sign.board(80);
        type(sign, "A~");
        due("digest of a changed line", spelled(sign, "A~"), sign::digest);
        due("digest changes nothing", 2, sign::clearBuffer);
        SignLetters even = lined("BBBBBBBBBBBBBBBBBBBB");
        for (int place = 1; place < 20; place++) {
            even.kern(place, 5);
            due("digest by " + place + " faults", spelled(even, ""), even::digest);
        }
    }
}
