import java.util.concurrent.Callable;

/** What the tests of single promises share: names of exceptions, lines made of texts, and rows of numbers. */
abstract class Signs {
    static final String INDEX = "IndexOutOfBoundsException";
    static final String ARGUMENT = "IllegalArgumentException";
    static final String STATE = "IllegalStateException";
    static final int LOWEST = Integer.MIN_VALUE;
    static final int HIGHEST = Integer.MAX_VALUE;
    static final Checks CHECKS = new Checks();

    static void due(String what, Object want, Callable<?> call) {
        CHECKS.due(what, want, call);
    }

    static void sentence(String words, Runnable test) {
        CHECKS.sentence(words, test);
    }

    static void type(SignLetters sign, String text) {
        for (int i = 0; i < text.length(); i++) {
            sign.append(text.charAt(i));
        }
    }

    static SignLetters typed(String text) {
        SignLetters sign = new SignLetters();
        type(sign, text);
        return sign;
    }

    static SignLetters lined(String text) {
        SignLetters sign = typed(text);
        sign.line();
        return sign;
    }

    /** A line, and settings by pairs of their number and their value. */
    static SignLetters lined(String text, int... settings) {
        SignLetters sign = lined(text);
        for (int i = 0; i + 1 < settings.length; i += 2) {
            sign.set(settings[i], settings[i + 1]);
        }
        return sign;
    }

    static SignLetters boarded(String text, int board, int... settings) {
        SignLetters sign = lined(text, settings);
        sign.board(board);
        return sign;
    }

    /** The line as a text, read off its items. */
    static String textOf(SignLetters sign) {
        StringBuilder text = new StringBuilder();
        for (int place = 0; place < sign.count(0); place++) {
            int letter = sign.item(place, 0);
            int kern = sign.item(place, 1) - 10;
            text.append(letter == -1 ? '_' : (char) ('A' + letter));
            if (letter != -1 && kern != 0) {
                text.append(kern > 0 ? '+' : '-').append(kern > 0 ? kern : -kern);
            }
        }
        return text.toString();
    }

    /** A number of each item in turn. */
    static String row(SignLetters sign, int what) {
        StringBuilder row = new StringBuilder();
        for (int place = 0; place < sign.count(0); place++) {
            row.append(place == 0 ? "" : " ").append(sign.item(place, what));
        }
        return row.toString();
    }

    static String counts(SignLetters sign) {
        return counts(sign, 0, 15);
    }

    static String counts(SignLetters sign, int first, int last) {
        StringBuilder row = new StringBuilder();
        for (int what = first; what <= last; what++) {
            row.append(what == first ? "" : " ").append(sign.count(what));
        }
        return row.toString();
    }

    /** All that a saved state holds: the line, the board, the settings. */
    static String stateOf(SignLetters sign) {
        return textOf(sign) + " " + sign.count(6) + " " + counts(sign, 9, 14);
    }

    /** The digest, spelled out by the other calls of the face; the buffer can't be looked at, so it is told. */
    static long spelled(SignLetters sign, String buffer) {
        long hash = 3697;
        for (int what = 0; what <= 15; what++) {
            hash = 31 * hash + sign.count(what);
        }
        for (int place = 0; place < sign.count(0); place++) {
            for (int what = 0; what <= 8; what++) {
                hash = 31 * hash + sign.item(place, what);
            }
            hash = 31 * hash + sign.bestKern(place);
        }
        for (int rank = 0; rank < sign.count(2); rank++) {
            hash = 31 * hash + sign.byArea(rank);
            hash = 31 * hash + sign.byFault(rank);
        }
        for (int shape = 0; shape <= 3; shape++) {
            hash = 31 * hash + sign.indent(shape, 0);
            hash = 31 * hash + sign.indent(shape, 9);
        }
        hash = 31 * hash + sign.ifSet(4, 5, 0);
        hash = 31 * hash + sign.ifSet(4, 5, 1);
        hash = 31 * hash + sign.greatestArea();
        hash = 31 * hash + sign.bestSnap();
        hash = 31 * hash + Double.doubleToLongBits(sign.even());
        hash = 31 * hash + buffer.length();
        for (int i = 0; i < buffer.length(); i++) {
            hash = 31 * hash + buffer.charAt(i);
        }
        return hash;
    }
}
