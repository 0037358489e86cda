/**
 * The words under "Terms", sentence by sentence: each that names a boundary case is told as the document tells it, and
 * has a test of its own. J and A make most of the pairs: both edges between them are straight, so by the gap g their
 * area is 10 * g; J and A are 6 wide.
 */
final class TermsTest extends Signs {
    private static final String TWENTY = "ABCDEFGHIJKLMNOPQRST";

    public static void main(String[] args) {
        numbers();
        letters();
        shapes();
        serifs();
        items();
        areas();
        laying();
        gaps();
        snaps();
        faults();
        widths();
        cells();
        orders();
        ordersOfPairsAlike();
        settings();
        buffer();
        texts();
        errors();
        savedStates();
        statesNotSaved();
        constants();
        looks();
        manyCalls();
        CHECKS.end();
    }

    // ---- all numbers, letters

    private static void numbers() {
        sentence("All numbers are integers, but for a share; divisions are rounded down.", () -> {
            // 70 by 60 is off by 16 and two thirds.
            SignLetters sign = lined("JA+1");
            due("a share of 16 and two thirds", 16, () -> sign.item(1, 7));
            due("the margin of 281", 140, () -> sign.count(5));
            due("the round edge's 9 by 2", 4, () -> lined("A", 0, 0).indent(1, 0));
            due("even of one in two", 0.5, () -> lined("JA_JA+1").even());
        });
    }

    private static String alphabet(int what) {
        SignLetters sign = new SignLetters();
        StringBuilder row = new StringBuilder();
        for (int letter = 0; letter < 26; letter++) {
            row.append(letter == 0 ? "" : " ").append(sign.letter(letter, what));
        }
        return row.toString();
    }

    private static void letters() {
        sentence("There are 26 letters, numbered from 0 (A) to 25 (Z).", () -> {
            SignLetters sign = lined("AZ");
            due("the numbers of A and Z", "0 25", () -> row(sign, 0));
            due("letter -1", INDEX, () -> sign.letter(-1, 0));
            due("letter 0", 6, () -> sign.letter(0, 0));
            due("letter 25", 10, () -> sign.letter(25, 0));
            due("letter 26", INDEX, () -> sign.letter(26, 0));
        });
        sentence("The letter k has the width 6 and (7 * k modulo 9), together", () -> {
            due("the widths", "6 13 11 9 7 14 12 10 8 6 13 11 9 7 14 12 10 8 6 13 11 9 7 14 12 10",
                () -> alphabet(0));
            // Blanks 1 wide stand between; each letter ends its width behind where it begins.
            due("where A, B, C, J, Z end", "6 7 20 21 32 33 39 40 50", () -> row(lined("A_B_C_J_Z", 2, 1), 3));
        });
        sentence("its left edge has the shape k modulo 4, its right edge the shape (3 * k and 1) modulo 4.", () -> {
            due("the left edges", "0 1 2 3 0 1 2 3 0 1 2 3 0 1 2 3 0 1 2 3 0 1 2 3 0 1", () -> alphabet(1));
            due("the right edges", "1 0 3 2 1 0 3 2 1 0 3 2 1 0 3 2 1 0 3 2 1 0 3 2 1 0", () -> alphabet(2));
        });
    }

    private static String edge(int shape, int brush) {
        SignLetters sign = lined("A", 0, brush);
        StringBuilder row = new StringBuilder();
        for (int line = 0; line < 10; line++) {
            row.append(line == 0 ? "" : " ").append(sign.indent(shape, line));
        }
        return row.toString();
    }

    private static void shapes() {
        sentence("An edge has 10 rows, from 0 (the top) to 9", () -> {
            SignLetters sign = lined("A", 0, 0);
            due("the row -1", INDEX, () -> sign.indent(2, -1));
            due("the row 0", 0, () -> sign.indent(2, 0));
            due("the row 9", 4, () -> sign.indent(2, 9));
            due("the row 10", INDEX, () -> sign.indent(2, 10));
        });
        sentence("0 straight: 0;", () -> due("its rows", "0 0 0 0 0 0 0 0 0 0", () -> edge(0, 0)));
        sentence("1 round: the difference of 2 * row and 9, without the sign, divided by 2;",
            () -> due("its rows", "4 3 2 1 0 0 1 2 3 4", () -> edge(1, 0)));
        sentence("2 slanted: row divided by 2;",
            () -> due("its rows", "0 0 1 1 2 2 3 3 4 4", () -> edge(2, 0)));
        sentence("3 open: 4 in the rows 3 to 6, otherwise 0.",
            () -> due("its rows", "0 0 0 4 4 4 4 0 0 0", () -> edge(3, 0)));
    }

    private static void serifs() {
        sentence("By the serifs the indent in the rows 0 and 9 is less by setting 0", () -> {
            due("round by the brush 1", "3 3 2 1 0 0 1 2 3 3", () -> edge(1, 1));
            due("round by the brush 3", "1 3 2 1 0 0 1 2 3 1", () -> edge(1, 3));
            due("round by the brush 4", "0 3 2 1 0 0 1 2 3 0", () -> edge(1, 4));
            due("slanted by the brush 2", "0 0 1 1 2 2 3 3 4 2", () -> edge(2, 2));
            // Two round edges have 40 by the brush 0, and 24 by the brush 4.
            due("the area of AB by the brush 0", 60, () -> lined("AB", 0, 0).item(1, 5));
            due("the area of AB by the brush 4", 64, () -> lined("AB", 0, 4).item(1, 5));
        });
        sentence("but at least 0.", () -> {
            due("straight by the brush 4", "0 0 0 0 0 0 0 0 0 0", () -> edge(0, 4));
            due("slanted by the brush 4", "0 0 1 1 2 2 3 3 4 0", () -> edge(2, 4));
            due("open by the brush 4", "0 0 0 4 4 4 4 0 0 0", () -> edge(3, 4));
            due("the area of JA by the brush 4", 60, () -> lined("JA", 0, 4).item(1, 5));
        });
    }

    // ---- the line

    private static void items() {
        sentence("A line has at most 20 items, at places from 0 on: letters and blanks.", () -> {
            SignLetters sign = lined("A_A_A_A_A_A_A_A_A_");
            due("the 19th", 19, () -> sign.put(18, 0));
            due("the 20th", 20, () -> sign.put(19, -1));
            due("a 21st letter", STATE, () -> sign.put(0, 0));
            due("a 21st blank", STATE, () -> sign.put(20, -1));
            due("the first place", 0, () -> sign.item(0, 0));
            due("the last place", -1, () -> sign.item(19, 0));
            due("a place behind the last one", INDEX, () -> sign.item(20, 0));
            sign.drop(0);
            due("the 20th again", 20, () -> sign.put(19, 0));
        });
        sentence("Two letters that stand at places side by side are a pair.", () -> {
            String[] lines = {"A", "_", "A_", "_A", "A_B", "A__B", "AB", "AA", "_AB_", "ABA", TWENTY};
            int[] pairs = {0, 0, 0, 0, 0, 0, 1, 1, 1, 2, 19};
            due("pairs of an empty line", 0, () -> new SignLetters().count(2));
            for (int i = 0; i < lines.length; i++) {
                String line = lines[i];
                due("pairs of " + line, pairs[i], () -> lined(line).count(2));
            }
        });
        sentence("A pair has a kern, -5 to 5, at first 0", () -> {
            SignLetters sign = lined("JA");
            due("the kern at first", 10, () -> sign.kern(1, -5));
            due("the kern -6", ARGUMENT, () -> sign.kern(1, -6));
            due("the gap by -5", 1, () -> sign.item(1, 4));
            due("the kern before", 5, () -> sign.kern(1, 5));
            due("the kern 6", ARGUMENT, () -> sign.kern(1, 6));
            due("the gap by 5", 11, () -> sign.item(1, 4));
        });
        sentence("which belongs to the place of its second letter (and goes with this letter).", () -> {
            SignLetters sign = lined("JA+3I-2");
            sign.put(1, 5);
            due("a letter put ahead of it", "JFA+3I-2", () -> textOf(sign));
            sign.swap(1, 2);
            due("swapped with the letter ahead of it", "JA+3FI-2", () -> textOf(sign));
            sign.drop(0);
            due("the letter ahead of it dropped", "A+3FI-2", () -> textOf(sign));
            sign.put(0, -1);
            due("a blank put ahead of it", "_A+3FI-2", () -> textOf(sign));
            sign.drop(2);
            due("the letter behind it dropped", "_A+3I-2", () -> textOf(sign));
            sign.drop(1);
            sign.put(1, 0);
            due("a letter put in its place", "_AI-2", () -> textOf(sign));
        });
    }

    private static void areas() {
        sentence("The area of a pair with a gap is the sum, over the 10 rows, of the gap, the indent of the right edge "
            + "of the first letter, and that of the left edge of the second one, together", () -> {
                // By the brush 1 the rows add up to: round 18, slanted 19, open 16. By 10 each gap is 0.
                due("AB, round and round", 36, () -> lined("AB", 3, 10).item(1, 5));
                due("AC, round and slanted", 37, () -> lined("AC", 3, 10).item(1, 5));
                due("CA, open and straight", 16, () -> lined("CA", 3, 10).item(1, 5));
                due("DD, slanted and open", 35, () -> lined("DD", 3, 10).item(1, 5));
                due("JA by the gap 0", 0, () -> lined("JA-1", 3, 10).item(1, 5));
                due("JA by the gap 1", 10, () -> lined("JA", 3, 10).item(1, 5));
            });
        sentence("but at most setting 1 for each row.", () -> {
            // JD, straight and open: by the gap g six rows have g, and four have g and 4; the limit is 7.
            SignLetters sign = lined("JD", 1, 7, 3, 40);
            due("four rows just at the limit, by the gap 3", "3 46", () -> sign.item(1, 4) + " " + sign.item(1, 5));
            sign.kern(1, 1);
            due("four rows above it, by the gap 4", 52, () -> sign.item(1, 5));
            sign.kern(1, 4);
            due("all rows at the limit, by the gap 7", 70, () -> sign.item(1, 5));
            sign.kern(1, 5);
            due("all rows above it, by the gap 8", 70, () -> sign.item(1, 5));
        });
    }

    private static void laying() {
        sentence("the first letter or blank begins at 0.", () -> {
            due("a letter", 0, () -> lined("AB", 4, 12).item(0, 2));
            due("a kerned letter", 0, () -> lined("A+5B", 4, 12).item(0, 2));
            due("a blank", 0, () -> lined("_A", 4, 12).item(0, 2));
            SignLetters sign = lined("JA+5");
            sign.drop(0);
            due("a second letter that has become the first", 0, () -> sign.item(0, 2));
            sign.put(0, -1);
            due("a blank put ahead", "0 8", () -> row(sign, 2));
        });
        sentence("A blank is setting 2 wide", () -> {
            due("a blank 1 wide", 1, () -> lined("_", 2, 1).item(0, 3));
            due("a blank 30 wide", 30, () -> lined("_", 2, 30).item(0, 3));
            due("two blanks 30 wide", "6 36 66 72", () -> row(lined("A__A", 2, 30), 3));
        });
        sentence("a letter behind a blank begins where the blank ends", () -> {
            due("at the second place", 8, () -> lined("_A").item(1, 2));
            due("with a letter ahead of the blank", 14, () -> lined("A_B").item(2, 2));
            due("with the kern 5", 14, () -> lined("A_B+5").item(2, 2));
            due("with the kern -5", 14, () -> lined("A_B-5").item(2, 2));
        });
        sentence("a blank begins where the letter, or blank, ahead of it ends.", () -> {
            due("behind a letter", 6, () -> lined("A_").item(1, 2));
            due("behind a blank", 8, () -> lined("__").item(1, 2));
            due("behind a letter, by the snap 12", 6, () -> lined("A_", 4, 12).item(1, 2));
            due("behind a blank, by the snap 12", 8, () -> lined("__", 4, 12).item(1, 2));
        });
    }

    private static void gaps() {
        sentence("The wanted gap of a pair is the least of 0 to 40 by which its area is at least setting 3", () -> {
            due("0, where the area is above it by that", 0, () -> lined("AB", 3, 36).item(1, 4));
            due("1, where 0 brings one too few", 1, () -> lined("AB", 3, 37).item(1, 4));
            due("the least that brings just as much", 6, () -> lined("JA", 3, 60).item(1, 4));
            due("the next, for one more", 7, () -> lined("JA", 3, 61).item(1, 4));
            due("30, the greatest that is ever found", 30, () -> lined("JA", 1, 40, 3, 300).item(1, 4));
            due("the one by which all rows are full", 30, () -> lined("JA", 1, 30, 3, 300).item(1, 4));
        });
        sentence("or 40, if there is none", () -> {
            due("rows of 29 for 300", 40, () -> lined("JA", 1, 29, 3, 300).item(1, 4));
            due("rows of 5 for 51", 40, () -> lined("AB", 1, 5, 3, 51).item(1, 4));
            due("rows of 5 for 50", 5, () -> lined("JA", 1, 5, 3, 50).item(1, 4));
        });
        sentence("and its kern, together", () -> {
            due("6 and 5", 11, () -> lined("JA+5").item(1, 4));
            due("6 and -5", 1, () -> lined("JA-5").item(1, 4));
            due("40 and 5", 45, () -> lined("JA+5", 1, 5).item(1, 4));
            due("40 and -5", 35, () -> lined("JA-5", 1, 5).item(1, 4));
            due("0 and 5", 5, () -> lined("AB+5", 3, 10).item(1, 4));
        });
        sentence("but at least 0.", () -> {
            due("4 and -3", 1, () -> lined("JA-3", 3, 40).item(1, 4));
            due("4 and -4", 0, () -> lined("JA-4", 3, 40).item(1, 4));
            due("4 and -5", 0, () -> lined("JA-5", 3, 40).item(1, 4));
            due("0 and -5", 0, () -> lined("AB-5", 3, 10).item(1, 4));
            due("where the letter begins by that", 6, () -> lined("AB-5", 3, 10).item(1, 2));
        });
    }

    private static void snaps() {
        sentence("The second letter begins so far behind the end of the first one", () -> {
            due("JA", 12, () -> lined("JA").item(1, 2));
            due("JA+1 by the snap 1", 13, () -> lined("JA+1", 4, 1).item(1, 2));
            due("JA behind a blank", "0 8 20", () -> row(lined("_JA"), 2));
        });
        sentence("but if setting 4 is above 1, each letter", () -> {
            due("13 by the snap 2", 14, () -> lined("JA+1", 4, 2).item(1, 2));
            due("13 by the snap 12", 24, () -> lined("JA+1", 4, 12).item(1, 2));
            due("a letter behind a blank", "0 9", () -> row(lined("_A", 4, 3), 2));
            due("letters behind letters that have snapped", "0 15 30", () -> row(lined("JAA", 4, 5), 2));
        });
        sentence("but one at the place 0", () -> {
            due("a letter at 0 alone", 0, () -> lined("A-5", 4, 12).item(0, 2));
            due("the letters at 0 and 1", "0 12", () -> row(lined("JA", 4, 12), 2));
        });
        sentence("begins at the next multiple of setting 4 from there on (it snaps).", () -> {
            due("12 by the snap 12", 12, () -> lined("JA", 4, 12).item(1, 2));
            due("11 by the snap 12", 12, () -> lined("JA-1", 4, 12).item(1, 2));
            due("12 by the snap 11", 22, () -> lined("JA", 4, 11).item(1, 2));
            due("the end of a blank by the snap 8", 8, () -> lined("_A", 4, 8).item(1, 2));
            due("the end of a blank by the snap 9", 9, () -> lined("_A", 4, 9).item(1, 2));
            due("the end of a letter by the snap 6", 6, () -> lined("AB-5", 3, 10, 4, 6).item(1, 2));
        });
    }

    private static void faults() {
        sentence("The gap of a pair is then what lies between both letters, its area that by this gap", () -> {
            SignLetters sign = lined("JA", 4, 5);
            due("the gap from 6 to 15", 9, () -> sign.item(1, 4));
            due("its area", 90, () -> sign.item(1, 5));
            due("a gap that does not snap", 6, () -> lined("JA", 4, 4).item(1, 4));
        });
        sentence("its share is the difference of its area and setting 3, without the sign, times 100, divided by "
            + "setting 3.", () -> {
                due("60 by 60", 0, () -> lined("JA").item(1, 7));
                due("90 by 60", 50, () -> lined("JA+3").item(1, 7));
                due("30 by 60", 50, () -> lined("JA-3").item(1, 7));
                due("0 by 50", 100, () -> lined("JA-5", 3, 50).item(1, 7));
                due("60 by 10", 500, () -> lined("JA+5", 3, 10).item(1, 7));
                due("300 by 299", 0, () -> lined("JA", 1, 40, 3, 299).item(1, 7));
            });
        sentence("A pair is a fault, if its share is greater than setting 5.", () -> {
            due("0 by 0", 0, () -> lined("JA", 5, 0).item(1, 8));
            due("10 by 10", 0, () -> lined("JA+1", 3, 100, 5, 10).item(1, 8));
            due("10 by 9", 1, () -> lined("JA+1", 3, 100, 5, 9).item(1, 8));
            due("10 below by 10", 0, () -> lined("JA-1", 3, 100, 5, 10).item(1, 8));
            due("10 below by 9", 1, () -> lined("JA-1", 3, 100, 5, 9).item(1, 8));
            due("100 by 100", 0, () -> lined("JA-5", 3, 50, 5, 100).item(1, 8));
            due("500 by 100", 1, () -> lined("JA+5", 3, 10, 5, 100).item(1, 8));
        });
    }

    private static void widths() {
        sentence("The width of the line is where its last item ends", () -> {
            due("an empty line", 0, () -> new SignLetters().count(4));
            due("a letter last", 18, () -> lined("JA").count(4));
            due("a blank last", 26, () -> lined("JA_").count(4));
        });
        sentence("it fits the board, if that is at most the length of the board", () -> {
            due("50 by 50", 0, () -> boarded("_____", 50, 2, 10).count(5));
            due("51 by 50", -1, () -> boarded("___", 50, 2, 17).count(5));
            due("600 by 600", 0, () -> boarded("____________________", 600, 2, 30).count(5));
            due("600 by 599", -1, () -> boarded("____________________", 599, 2, 30).count(5));
        });
        sentence("(50 to 600, at first 300)", () -> {
            SignLetters sign = new SignLetters();
            due("at first", 300, () -> sign.count(6));
            due("49", ARGUMENT, () -> sign.board(49));
            due("50", 300, () -> sign.board(50));
            due("601", ARGUMENT, () -> sign.board(601));
            due("600", 50, () -> sign.board(600));
        });
        sentence("Its margin is what is left of the board, divided by 2.", () -> {
            due("nothing left", 0, () -> boarded("_____", 50, 2, 10).count(5));
            due("1 left", 0, () -> boarded("_____", 51, 2, 10).count(5));
            due("2 left", 1, () -> boarded("_____", 52, 2, 10).count(5));
            due("50 left", 25, () -> boarded("A", 56).count(5));
            due("an empty line", 150, () -> new SignLetters().count(5));
        });
    }

    private static void cells() {
        sentence("The same area counted cell by cell: in each row the cells between both edges are counted one by one, "
            + "up to setting 1; both ways agree.", () -> {
                due("no cells at all", 0, () -> lined("JA-5", 3, 50).item(1, 6));
                due("all rows at the limit", 50, () -> lined("JA", 1, 5).item(1, 6));
                due("some rows above the limit", 52, () -> lined("JD+1", 1, 7, 3, 40).item(1, 6));
                for (int brush = 0; brush <= 4; brush++) {
                    for (int limit = 5; limit <= 40; limit += 5) {
                        SignLetters sign = lined("AB+5CD-5EFGH-2G_FE-5DCBA-3AC", 0, brush, 1, limit, 4, 1 + limit % 3);
                        due("by the brush " + brush + " and rows of " + limit, row(sign, 5), () -> row(sign, 6));
                    }
                }
            });
    }

    // ---- orders

    private static String byArea(SignLetters sign) {
        StringBuilder row = new StringBuilder();
        for (int rank = 0; rank <= sign.count(2); rank++) {
            row.append(rank == 0 ? "" : " ").append(sign.byArea(rank));
        }
        return row.toString();
    }

    private static String byFault(SignLetters sign) {
        StringBuilder row = new StringBuilder();
        for (int rank = 0; rank <= sign.count(2); rank++) {
            row.append(rank == 0 ? "" : " ").append(sign.byFault(rank));
        }
        return row.toString();
    }

    private static void orders() {
        sentence("Pairs are told by the place of their second letter.", () -> {
            due("of JA", "1 -1", () -> byArea(lined("JA")));
            due("of __JA", "3 -1", () -> byArea(lined("__JA")));
            due("the faults of __JA", "3 -1", () -> byFault(lined("__JA")));
        });
        sentence("In the order of areas the pair with the least area comes first", () -> {
            due("areas 90, 60, 30", "7 4 1 -1", () -> byArea(lined("JA+3_JA_JA-3")));
            due("areas 30, 60, 90", "1 4 7 -1", () -> byArea(lined("JA-3_JA_JA+3")));
        });
        sentence("in the order of faults the pair with the greatest share", () -> {
            due("shares 16, 0, 50, 33", "7 10 1 4 -1", () -> byFault(lined("JA+1_JA_JA-3_JA+2")));
            due("a greater share ahead of a greater area", "4 1 -1", () -> byFault(lined("JA+1_JA-2")));
        });
    }

    private static void ordersOfPairsAlike() {
        sentence("of several the lowest place", () -> {
            due("three areas alike", "1 4 7 -1", () -> byArea(lined("JA_JA_JA")));
            due("two alike behind a less one", "7 1 4 10 -1", () -> byArea(lined("JA_JA_JA-1_JA+1")));
            // AA is 68, JA+5 and JA+5 are 110.
            due("two alike behind a less one, the greatest", "5 1 4 -1", () -> byArea(lined("JA+5_JA+5A")));
        });
        sentence("of several that with the greatest area", () -> {
            due("50 and 70 by 60", "4 1 -1", () -> byFault(lined("JA-1_JA+1")));
            due("70 and 50 by 60", "1 4 -1", () -> byFault(lined("JA+1_JA-1")));
        });
        sentence("of several of those the lowest place.", () -> {
            due("three pairs alike", "1 4 7 -1", () -> byFault(lined("JA+1_JA+1_JA+1")));
            due("twice two alike", "4 10 1 7 -1", () -> byFault(lined("JA-1_JA+1_JA-1_JA+1")));
        });
    }

    // ---- settings

    private static void setting(String words, int number, int least, int most, int first) {
        sentence(words, () -> {
            SignLetters sign = lined("JA");
            int below = least - 1;
            int above = most + 1;
            due("at first", first, () -> sign.count(9 + number));
            due("its least value", first, () -> sign.set(number, least));
            due("one below it", ARGUMENT, () -> sign.set(number, below));
            due("its greatest value", least, () -> sign.set(number, most));
            due("one above it", ARGUMENT, () -> sign.set(number, above));
            due("the value of now", most, () -> sign.count(9 + number));
            due("if it were the least", true, () -> sign.ifSet(number, least, 1) > 0);
            due("if it were the greatest", true, () -> sign.ifSet(number, most, 1) > 0);
            due("if it were one below", ARGUMENT, () -> sign.ifSet(number, below, 0));
            due("if it were one above", ARGUMENT, () -> sign.ifSet(number, above, 0));
        });
    }

    private static void settings() {
        setting("0: the brush, 0 to 4, at first 1;", 0, 0, 4, 1);
        setting("1: the greatest area of a row, 5 to 40, at first 20;", 1, 5, 40, 20);
        setting("2: the width of a blank, 1 to 30, at first 8;", 2, 1, 30, 8);
        setting("3: the wanted area, 10 to 300, at first 60;", 3, 10, 300, 60);
        setting("4: the snap, 1 to 12, at first 1;", 4, 1, 12, 1);
        setting("5: the share that is allowed, 0 to 100, at first 15.", 5, 0, 100, 15);
    }

    // ---- input text

    private static void buffer() {
        sentence("The buffer has at most 60 characters.", () -> {
            SignLetters sign = new SignLetters();
            for (int i = 1; i <= 59; i++) {
                sign.append('_');
            }
            due("the 60th", 60, () -> sign.append('_'));
            due("the 61st", STATE, () -> sign.append('_'));
            due("its length", 60, sign::clearBuffer);
            due("one in the cleared buffer", 1, () -> sign.append('_'));
        });
    }

    private static void error(String text, int index) {
        due("the first error of " + text, index, () -> typed(text).firstError());
    }

    private static void items(String text, int items) {
        due("the items of " + text, items, () -> typed(text).line());
    }

    private static void noLine(String text) {
        due("the line of " + text, ARGUMENT, () -> typed(text).line());
    }

    private static void texts() {
        sentence("A line as a text is one or more items", () -> {
            noLine("");
            items("A", 1);
            items("_", 1);
            items("A_", 2);
        });
        sentence("a letter, \"A\" to \"Z\", or \"_\" (a blank)", () -> {
            due("the letters A and Z, and a blank", "0 25 -1", () -> row(lined("AZ_"), 0));
            for (String sign : new String[] {"@", "[", "^", "`", "a", "z", "0", "!", "~", "+", "-"}) {
                error(sign, 0);
                error("A_" + sign + sign, 2);
            }
        });
        sentence("and behind a letter perhaps \"+\" or \"-\"", () -> {
            items("A+1B-1C", 3);
            error("A+", 2);
            error("A-", 2);
            error("A*1", 1);
            error("A,1", 1);
            error("A.1", 1);
            error("_+1", 1);
            error("+1", 0);
            error("A+1-1", 3);
            error("A++", 2);
            error("A+-1", 2);
        });
        sentence("and a figure, 1 to 5: its kern.", () -> {
            due("the kerns of A+1B+5C-1D-5E", "11 15 9 5 10", () -> row(lined("A+1B+5C-1D-5E"), 1));
            error("A+0", 2);
            error("A+6", 2);
            error("A-0", 2);
            error("A-6", 2);
            error("A+A", 2);
            error("A+_", 2);
            error("A1", 1);
            error("A+11", 3);
            noLine("A+");
            noLine("AB-");
        });
        sentence("(At most 20 items can stand.)", () -> {
            items(TWENTY, 20);
            items("____________________", 20);
            items(TWENTY + "+5", 20);
            error(TWENTY + "A", 20);
            error(TWENTY + "_", 20);
            error(TWENTY + "+5A", 22);
            noLine(TWENTY + "A");
            noLine(TWENTY + "_");
            noLine(TWENTY + "-");
        });
    }

    private static void errors() {
        sentence("The buffer is read from left to right; a character is a syntax error if no line as a text begins "
            + "with the characters before it and this character.", () -> {
                error("", 0);
                error("A", 1);
                error("AB?C?", 2);
                error("?A", 0);
                error("A+?", 2);
                error("A+5?", 3);
                error("A_B+", 4);
                error("A_B++", 4);
            });
        sentence("A call that throws an exception changes nothing.", () -> {
            refusedCalls();
            refusedWhereFull();
        });
        sentence("If several exceptions apply, the one that is named first in the throws clause is thrown.", () -> {
            SignLetters sign = lined(TWENTY);
            due("put, all three", INDEX, () -> sign.put(21, 26));
            due("put, the first and the last", INDEX, () -> sign.put(21, 0));
            due("put, the last two", ARGUMENT, () -> sign.put(20, 26));
            due("kern, the first two", INDEX, () -> sign.kern(20, 6));
            due("kern, the last two", ARGUMENT, () -> lined("_").kern(0, 6));
            due("set, both", INDEX, () -> sign.set(6, -1));
            due("append, both", ARGUMENT, () -> {
                SignLetters full = new SignLetters();
                type(full, TWENTY + TWENTY + TWENTY);
                return full.append(127);
            });
            due("letter, both", INDEX, () -> sign.letter(26, 3));
            due("item, both", INDEX, () -> sign.item(20, 9));
            due("ifSet, both", INDEX, () -> sign.ifSet(6, -1, 2));
        });
    }

    private static void refused(SignLetters sign, String exception, java.util.concurrent.Callable<?> call) {
        long before = sign.digest();
        due("a refused call", exception, call);
        due("the digest behind it", before, sign::digest);
    }

    private static void refusedCalls() {
        SignLetters sign = lined("JA+2_C");
        sign.keep();
        sign.board(77);
        type(sign, "A+");
        refused(sign, INDEX, () -> sign.put(5, 0));
        refused(sign, ARGUMENT, () -> sign.put(0, 26));
        refused(sign, INDEX, () -> sign.drop(4));
        refused(sign, INDEX, () -> sign.swap(0, 4));
        refused(sign, INDEX, () -> sign.swap(4, 0));
        refused(sign, INDEX, () -> sign.kern(4, 1));
        refused(sign, ARGUMENT, () -> sign.kern(1, 6));
        refused(sign, STATE, () -> sign.kern(2, 1));
        refused(sign, ARGUMENT, () -> sign.board(601));
        refused(sign, INDEX, () -> sign.set(6, 1));
        refused(sign, ARGUMENT, () -> sign.set(0, 5));
        refused(sign, ARGUMENT, () -> sign.append(32));
        refused(sign, ARGUMENT, sign::line);
        refused(sign, INDEX, () -> sign.letter(26, 0));
        refused(sign, INDEX, () -> sign.indent(4, 0));
        refused(sign, INDEX, () -> sign.item(4, 0));
        refused(sign, ARGUMENT, () -> sign.byArea(-1));
        refused(sign, ARGUMENT, () -> sign.byFault(-1));
        refused(sign, ARGUMENT, () -> sign.count(16));
        refused(sign, ARGUMENT, () -> sign.ifSet(0, 5, 0));
        refused(sign, INDEX, () -> sign.bestKern(4));
        due("the saved state behind them", "0 JA+2_C 300 1 20 8 60 1 15", () -> {
            int left = sign.undo() - 1;
            return left + " " + stateOf(sign);
        });
        sign.drop(0);
        due("the snapshot behind them", "4 JA+2_C 300 1 20 8 60 1 15", () -> sign.restore() + " " + stateOf(sign));
    }

    private static void refusedWhereFull() {
        SignLetters sign = lined(TWENTY);
        type(sign, TWENTY + TWENTY + TWENTY);
        refused(sign, STATE, () -> sign.put(0, 0));
        refused(sign, STATE, () -> sign.append('A'));
        refused(sign, STATE, sign::restore);
        sign.undo();
        refused(sign, STATE, sign::undo);
    }

    // ---- undo, the snapshot

    private static void undone(String what, java.util.function.ToIntFunction<SignLetters> change) {
        SignLetters sign = boarded("JA+2_C", 200, 4, 3);
        sign.keep();
        type(sign, "JA+2_C");
        sign.undo();
        String before = stateOf(sign);
        int saved = sign.count(15);
        due(what + " saves a state", saved + 1, () -> {
            change.applyAsInt(sign);
            return sign.count(15);
        });
        due("undo of " + what, saved, sign::undo);
        due("the state behind undo of " + what, before, () -> stateOf(sign));
    }

    private static void savedStates() {
        sentence("Each method that is marked \"undoable\" and does not throw an exception saves the state from "
            + "before it", () -> {
                undone("put", sign -> sign.put(4, 1));
                undone("drop", sign -> sign.drop(1));
                undone("swap", sign -> sign.swap(1, 2));
                undone("kern", sign -> sign.kern(1, -5));
                undone("board", sign -> sign.board(600));
                undone("set", sign -> sign.set(3, 300));
                undone("line", sign -> {
                    sign.clearBuffer();
                    return sign.append('Z') + sign.line();
                });
                undone("restore", SignLetters::restore);
            });
        sentence("(also if it changes nothing)", () -> {
            undone("swap", sign -> sign.swap(1, 1));
            undone("kern", sign -> sign.kern(1, 2));
            undone("board", sign -> sign.board(300));
            undone("set", sign -> sign.set(4, 3));
            undone("line", SignLetters::line);
            undone("restore", sign -> sign.keep() + sign.restore());
        });
        sentence("At most 6 states are saved; the oldest one is dropped first.", () -> {
            SignLetters sign = new SignLetters();
            for (int place = 0; place < 6; place++) {
                sign.put(place, place);
            }
            due("six states", 6, () -> sign.count(15));
            sign.put(6, 6);
            due("six states behind a seventh change", 6, () -> sign.count(15));
            due("five left", 5, sign::undo);
            due("the latest one", "ABCDEF", () -> textOf(sign));
            for (int left = 4; left >= 0; left--) {
                due("states left", left, sign::undo);
            }
            due("the oldest one that is left", "A", () -> textOf(sign));
            due("undo of the dropped one", STATE, sign::undo);
        });
    }

    private static void statesNotSaved() {
        sentence("all, but the buffer", () -> {
            SignLetters sign = typed("A");
            sign.line();
            type(sign, "BC");
            sign.undo();
            due("the buffer of now, not the one from before", 2, sign::clearBuffer);
            sign.keep();
            type(sign, "D");
            sign.restore();
            due("the buffer behind restore", 1, sign::clearBuffer);
            sign.undo();
            due("the cleared buffer stays cleared", 0, sign::clearBuffer);
        });
        sentence("the saved states", () -> {
            SignLetters sign = lined("AB");
            sign.keep();
            sign.drop(0);
            sign.drop(0);
            due("one less by undo", 2, sign::undo);
            sign.restore();
            due("one more by restore", 3, () -> sign.count(15));
            sign.undo();
            sign.undo();
            due("the states ahead of the snapshot", "AB", () -> textOf(sign));
        });
        sentence("and the snapshot.", () -> {
            SignLetters sign = lined("AB");
            sign.keep();
            sign.drop(0);
            sign.keep();
            sign.undo();
            due("the snapshot of now, not the one from before", "1 B", () -> sign.restore() + " " + textOf(sign));
            SignLetters later = lined("A");
            later.keep();
            later.undo();
            due("a snapshot taken since", 1, later::restore);
        });
    }

    private static void constants() {
        sentence("The constants: `NONE = -1`: There is nothing to return.", () -> {
            due("NONE", -1, () -> SignLetters.NONE);
            due("where there is nothing to return", SignLetters.NONE, () -> new SignLetters().byArea(0));
        });
    }

    private static void unchanged(SignLetters sign, java.util.concurrent.Callable<?> look) {
        long before = sign.digest();
        String answer = Checks.answer(look);
        due("the same look once more", answer, look);
        due("the digest behind it", before, sign::digest);
        due("the line behind it", "JA+2_C-1 200 2 30 5 90 3 20", () -> stateOf(sign));
    }

    private static void looks() {
        SignLetters sign = boarded("JA+2_C-1", 200, 0, 2, 1, 30, 2, 5, 3, 90, 4, 3, 5, 20);
        type(sign, "A?");
        sentence("---- looks; nothing is changed.", () -> {
            unchanged(sign, () -> sign.letter(25, 2));
            unchanged(sign, () -> sign.indent(3, 9));
            for (int i = 0; i <= 15; i++) {
                int what = i;
                unchanged(sign, () -> sign.count(what));
                unchanged(sign, () -> sign.item(1, what));
            }
            unchanged(sign, () -> sign.byArea(0));
            unchanged(sign, () -> sign.byFault(0));
        });
        sentence("---- what would be; nothing is changed.", () -> {
            for (int i = 0; i <= 5; i++) {
                int setting = i;
                unchanged(sign, () -> sign.ifSet(setting, 10, 0));
                unchanged(sign, () -> sign.ifSet(setting, 4, 1));
            }
            unchanged(sign, sign::greatestArea);
            unchanged(sign, sign::bestSnap);
            unchanged(sign, () -> sign.bestKern(1));
            unchanged(sign, sign::even);
            unchanged(sign, sign::digest);
            due("the buffer behind them", 2, sign::clearBuffer);
            due("a saved state behind them", 5, sign::undo);
            due("the state ahead of the last change", "JA+2_C-1 300 2 30 5 90 3 20", () -> stateOf(sign));
        });
    }

    private static void manyCalls() {
        sentence("An object is used for at most 512 calls after it has been made", () -> {
            SignLetters sign = new SignLetters();
            for (int call = 1; call <= 19; call++) {
                sign.put(0, call % 2 == 0 ? 0 : 9);
            }
            long digest = 0;
            for (int call = 20; call <= 506; call += 3) {
                sign.put(19, 0);
                digest = sign.digest();
                sign.undo();
            }
            long full = digest;
            due("the 509th", 19, () -> sign.count(0));
            due("the 510th, a full line", 20, () -> sign.put(19, 0));
            due("the 511th", full, sign::digest);
            due("the 512th", 5, sign::undo);
        });
    }
}
