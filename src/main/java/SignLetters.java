/** A sign painter's line of letters that are spaced by area, snapped to lines, and held against a board. */
public final class SignLetters {
    public static final int NONE = -1;

    private static final int MOST_ITEMS = 20;
    private static final int LETTERS = 26;
    private static final int SHAPES = 4;
    private static final int ROWS = 10;
    private static final int WIDEST_GAP = 40;

    private static final int MOST_KERN = 5;
    private static final int KERN_SHIFT = 10;

    private static final int LEAST_BOARD = 50;
    private static final int MOST_BOARD = 600;
    private static final int FIRST_BOARD = 300;

    private static final int FIRST_CODE = 33;
    private static final int LAST_CODE = 126;
    private static final int MOST_CODES = 60;
    private static final int MOST_SAVED = 6;

    private static final int BRUSH = 0;
    private static final int ROW_LIMIT = 1;
    private static final int BLANK_WIDTH = 2;
    private static final int WANTED_AREA = 3;
    private static final int SNAP = 4;
    private static final int ALLOWED_SHARE = 5;
    private static final int SETTINGS = 6;
    private static final int[] LEAST_SETTINGS = {0, 5, 1, 10, 1, 0};
    private static final int[] MOST_SETTINGS = {4, 40, 30, 300, 12, 100};
    private static final int[] FIRST_SETTINGS = {1, 20, 8, 60, 1, 15};

    private static final int LETTER_NUMBERS = 3;
    private static final int ITEM_NUMBERS = 9;
    private static final int COUNTS = 16;
    private static final int SETTING_COUNTS = 9;
    private static final int AREA_STEP = 10;
    private static final int GREATEST_WANTED = 300;
    private static final int GREATEST_SNAP = 12;

    private static final long FIRST_HASH = 3697L;
    private static final int DIGEST_SNAP = 5;
    private static final long ONE_EXPONENT = 1023L;
    private static final int FRACTION_BITS = 52;
    private static final int MOST_HALVINGS = 64;

    private final State state = new State();
    private final State snapshot = new State();
    private final Past past = new Past();
    private final Text text = new Text();
    private final Layout shown = new Layout();
    private final Layout trial = new Layout();
    private final Ranking areaRanking = new Ranking(false);
    private final Ranking faultRanking = new Ranking(true);
    private boolean hasSnapshot;
    // The shown layout is laid anew only when it is looked at after a change.
    private boolean stale = true;

    public SignLetters() {
    }

    // ---- the line

    public int put(int place, int letter)
            throws IndexOutOfBoundsException, IllegalArgumentException, IllegalStateException {
        if (place < 0 || place > state.items) {
            throw new IndexOutOfBoundsException("place is out of range");
        }
        if (letter != NONE && !isLetter(letter)) {
            throw new IllegalArgumentException("letter is out of range");
        }
        if (state.items >= MOST_ITEMS) {
            throw new IllegalStateException("the line is full");
        }
        saveState();
        state.insert(place, letter);
        return state.items;
    }

    public int drop(int place) throws IndexOutOfBoundsException {
        if (!state.has(place)) {
            throw new IndexOutOfBoundsException("no such item");
        }
        saveState();
        state.remove(place);
        return state.items;
    }

    public int swap(int place, int other) throws IndexOutOfBoundsException {
        if (!state.has(place) || !state.has(other)) {
            throw new IndexOutOfBoundsException("no such item");
        }
        saveState();
        state.exchange(place, other);
        return look().width;
    }

    public int kern(int place, int kern)
            throws IndexOutOfBoundsException, IllegalArgumentException, IllegalStateException {
        if (!state.has(place)) {
            throw new IndexOutOfBoundsException("no such item");
        }
        if (kern < -MOST_KERN || kern > MOST_KERN) {
            throw new IllegalArgumentException("kern is out of range");
        }
        if (state.letterAt(place) == NONE) {
            throw new IllegalStateException("a blank has no kern");
        }
        saveState();
        int previous = state.kernAt(place);
        state.changeKern(place, kern);
        return previous + KERN_SHIFT;
    }

    public int board(int length) throws IllegalArgumentException {
        if (length < LEAST_BOARD || length > MOST_BOARD) {
            throw new IllegalArgumentException("length is out of range");
        }
        saveState();
        int previous = state.boardLength;
        state.boardLength = length;
        return previous;
    }

    public int set(int setting, int value) throws IndexOutOfBoundsException, IllegalArgumentException {
        if (!isSetting(setting)) {
            throw new IndexOutOfBoundsException("no such setting");
        }
        if (!isInRange(setting, value)) {
            throw new IllegalArgumentException("value is out of range");
        }
        saveState();
        int previous = valueAt(state.settings, setting);
        store(state.settings, setting, value);
        return previous;
    }

    // ---- texts

    public int append(int code) throws IllegalArgumentException, IllegalStateException {
        if (code < FIRST_CODE || code > LAST_CODE) {
            throw new IllegalArgumentException("code is out of range");
        }
        if (text.length >= MOST_CODES) {
            throw new IllegalStateException("the buffer is full");
        }
        text.add(code);
        return text.length;
    }

    public int clearBuffer() {
        int previous = text.length;
        text.length = 0;
        return previous;
    }

    public int firstError() {
        return text.errorIndex();
    }

    public int line() throws IllegalArgumentException {
        if (!text.isComplete()) {
            throw new IllegalArgumentException("the buffer is not a complete line");
        }
        saveState();
        text.writeTo(state);
        text.length = 0;
        return state.items;
    }

    // ---- undo, the snapshot

    public int undo() throws IllegalStateException {
        if (past.size <= 0) {
            throw new IllegalStateException("no saved state");
        }
        past.takeLatest(state);
        stale = true;
        return past.size;
    }

    public int keep() {
        snapshot.copyFrom(state);
        hasSnapshot = true;
        return state.items;
    }

    public int restore() throws IllegalStateException {
        if (!hasSnapshot) {
            throw new IllegalStateException("no snapshot");
        }
        saveState();
        state.copyFrom(snapshot);
        return state.items;
    }

    // ---- looks

    public int letter(int letter, int what) throws IndexOutOfBoundsException, IllegalArgumentException {
        if (!isLetter(letter)) {
            throw new IndexOutOfBoundsException("no such letter");
        }
        if (what < 0 || what >= LETTER_NUMBERS) {
            throw new IllegalArgumentException("what is out of range");
        }
        if (what == 0) {
            return widthOf(letter);
        }
        return what == 1 ? leftShape(letter) : rightShape(letter);
    }

    public int indent(int shape, int row) throws IndexOutOfBoundsException {
        if (shape < 0 || shape >= SHAPES || row < 0 || row >= ROWS) {
            throw new IndexOutOfBoundsException("no such shape or row");
        }
        return brushedIndent(shape, row, valueAt(state.settings, BRUSH));
    }

    public int item(int place, int what) throws IndexOutOfBoundsException, IllegalArgumentException {
        if (!state.has(place)) {
            throw new IndexOutOfBoundsException("no such item");
        }
        if (what < 0 || what >= ITEM_NUMBERS) {
            throw new IllegalArgumentException("what is out of range");
        }
        return itemNumber(look(), place, what);
    }

    public int byArea(int rank) throws IllegalArgumentException {
        if (rank < 0) {
            throw new IllegalArgumentException("rank is below 0");
        }
        look();
        return areaRanking.placeAt(rank);
    }

    public int byFault(int rank) throws IllegalArgumentException {
        if (rank < 0) {
            throw new IllegalArgumentException("rank is below 0");
        }
        look();
        return faultRanking.placeAt(rank);
    }

    public int count(int what) throws IllegalArgumentException {
        if (what < 0 || what >= COUNTS) {
            throw new IllegalArgumentException("what is out of range");
        }
        return lineNumber(look(), what);
    }

    // ---- what would be

    public int ifSet(int setting, int value, int what) throws IndexOutOfBoundsException, IllegalArgumentException {
        if (!isSetting(setting)) {
            throw new IndexOutOfBoundsException("no such setting");
        }
        if (!isInRange(setting, value) || what < 0 || what > 1) {
            throw new IllegalArgumentException("value or what is out of range");
        }
        trial.lay(state, setting, value);
        return what == 0 ? trial.faults : trial.width;
    }

    public int greatestArea() {
        for (int area = GREATEST_WANTED; area >= AREA_STEP; area -= AREA_STEP) {
            trial.lay(state, WANTED_AREA, area);
            if (trial.width <= state.boardLength) {
                return area;
            }
        }
        return NONE;
    }

    public int bestSnap() {
        int best = 1;
        int fewest = MOST_ITEMS;
        for (int snap = 1; snap <= GREATEST_SNAP; snap++) {
            trial.lay(state, SNAP, snap);
            if (trial.faults <= fewest) {
                fewest = trial.faults;
                best = snap;
            }
        }
        return best;
    }

    public int bestKern(int place) throws IndexOutOfBoundsException {
        if (!state.has(place)) {
            throw new IndexOutOfBoundsException("no such item");
        }
        return look().nearestKern(state, place);
    }

    public double even() {
        return evenness(look());
    }

    public long digest() {
        Layout layout = look();
        long hash = FIRST_HASH;
        for (int what = 0; what < COUNTS; what++) {
            hash = mixed(hash, lineNumber(layout, what));
        }
        hash = mixedItems(hash, layout);
        hash = mixedRankings(hash, layout.pairs);
        hash = mixedIndents(hash);
        trial.lay(state, SNAP, DIGEST_SNAP);
        hash = mixed(hash, trial.faults);
        hash = mixed(hash, trial.width);
        hash = mixed(hash, greatestArea());
        hash = mixed(hash, bestSnap());
        hash = mixed(hash, bitsOf(evenness(layout)));
        return mixedText(hash);
    }

    // ---- changes of the state

    private void saveState() {
        past.save(state);
        stale = true;
    }

    // ---- the line as it stands

    private Layout look() {
        if (stale) {
            shown.lay(state, NONE, 0);
            areaRanking.rank(shown);
            faultRanking.rank(shown);
            stale = false;
        }
        return shown;
    }

    private int itemNumber(Layout layout, int place, int what) {
        boolean blank = state.letterAt(place) == NONE;
        switch (what) {
            case 0:
                return state.letterAt(place);
            case 1:
                return blank ? NONE : state.kernAt(place) + KERN_SHIFT;
            case 2:
                return valueAt(layout.begins, place);
            case 3:
                return valueAt(layout.ends, place);
            default:
                return layout.isPair(place) ? pairNumber(layout, place, what) : NONE;
        }
    }

    private int pairNumber(Layout layout, int place, int what) {
        switch (what) {
            case 4:
                return valueAt(layout.gaps, place);
            case 5:
                return valueAt(layout.areas, place);
            case 6:
                return layout.countedCells(state, place);
            case 7:
                return valueAt(layout.shares, place);
            default:
                return layout.isFault(place) ? 1 : 0;
        }
    }

    private int lineNumber(Layout layout, int what) {
        switch (what) {
            case 0:
                return state.items;
            case 1:
                return state.countLetters();
            case 2:
                return layout.pairs;
            case 3:
                return layout.faults;
            case 4:
                return layout.width;
            case 5:
                return layout.width <= state.boardLength ? (state.boardLength - layout.width) / 2 : NONE;
            case 6:
                return state.boardLength;
            case 7:
                return areaOf(layout, areaRanking.placeAt(0));
            case 8:
                return areaOf(layout, areaRanking.placeAt(layout.pairs - 1));
            case 15:
                return past.size;
            default:
                return valueAt(state.settings, what - SETTING_COUNTS);
        }
    }

    private static int areaOf(Layout layout, int place) {
        return layout.isPair(place) ? valueAt(layout.areas, place) : NONE;
    }

    private static double evenness(Layout layout) {
        if (layout.pairs <= 0) {
            return 1.0;
        }
        return (double) (layout.pairs - layout.faults) / (double) layout.pairs;
    }

    // ---- the digest

    private static long mixed(long hash, long value) {
        return 31L * hash + value;
    }

    private long mixedItems(long hash, Layout layout) {
        long result = hash;
        for (int place = 0; place < state.items; place++) {
            for (int what = 0; what < ITEM_NUMBERS; what++) {
                result = mixed(result, itemNumber(layout, place, what));
            }
            result = mixed(result, layout.nearestKern(state, place));
        }
        return result;
    }

    private long mixedRankings(long hash, int pairs) {
        long result = hash;
        for (int rank = 0; rank < pairs; rank++) {
            result = mixed(result, areaRanking.placeAt(rank));
            result = mixed(result, faultRanking.placeAt(rank));
        }
        return result;
    }

    private long mixedIndents(long hash) {
        long result = hash;
        int brush = valueAt(state.settings, BRUSH);
        for (int shape = 0; shape < SHAPES; shape++) {
            result = mixed(result, brushedIndent(shape, 0, brush));
            result = mixed(result, brushedIndent(shape, ROWS - 1, brush));
        }
        return result;
    }

    private long mixedText(long hash) {
        long result = mixed(hash, text.length);
        for (int index = 0; index < text.length; index++) {
            result = mixed(result, valueAt(text.codes, index));
        }
        return result;
    }

    // LANGUAGE.md leaves no call that tells a double's bits; for 0.0 to 1.0 these steps are exact.
    private static long bitsOf(double share) {
        if (share <= 0.0) {
            return 0L;
        }
        double scaled = share;
        long exponent = ONE_EXPONENT;
        for (int step = 0; step < MOST_HALVINGS && scaled < 1.0; step++) {
            scaled = scaled * 2.0;
            exponent--;
        }
        return (exponent << FRACTION_BITS) + (long) ((scaled - 1.0) * 4503599627370496.0);
    }

    // ---- letters, edges and ranges

    private static boolean isLetter(int letter) {
        return letter >= 0 && letter < LETTERS;
    }

    private static int widthOf(int letter) {
        return 6 + (7 * letter) % 9;
    }

    private static int leftShape(int letter) {
        return letter % SHAPES;
    }

    private static int rightShape(int letter) {
        return (3 * letter + 1) % SHAPES;
    }

    private static int brushedIndent(int shape, int row, int brush) {
        int indent = plainIndent(shape, row);
        if (row != 0 && row != ROWS - 1) {
            return indent;
        }
        return indent > brush ? indent - brush : 0;
    }

    private static int plainIndent(int shape, int row) {
        switch (shape) {
            case 1:
                return (2 * row > 9 ? 2 * row - 9 : 9 - 2 * row) / 2;
            case 2:
                return row / 2;
            case 3:
                return row >= 3 && row <= 6 ? 4 : 0;
            default:
                return 0;
        }
    }

    private static boolean isSetting(int setting) {
        return setting >= 0 && setting < SETTINGS;
    }

    private static boolean isInRange(int setting, int value) {
        return value >= valueAt(LEAST_SETTINGS, setting) && value <= valueAt(MOST_SETTINGS, setting);
    }

    // ---- rows

    private static int valueAt(int[] row, int index) {
        return index >= 0 && index < row.length ? row[index] : 0;
    }

    private static void store(int[] row, int index, int value) {
        if (index >= 0 && index < row.length) {
            row[index] = value;
        }
    }

    private static void copyRow(int[] from, int[] to) {
        for (int index = 0; index < from.length && index < to.length; index++) {
            to[index] = from[index];
        }
    }

    /** All that undo and the snapshot bring back: the items, the board, the settings. */
    private static final class State {
        private final int[] letters = new int[MOST_ITEMS];
        private final int[] kerns = new int[MOST_ITEMS];
        private final int[] settings = new int[SETTINGS];
        private int items;
        private int boardLength = FIRST_BOARD;

        State() {
            copyRow(FIRST_SETTINGS, settings);
        }

        void copyFrom(State other) {
            copyRow(other.letters, letters);
            copyRow(other.kerns, kerns);
            copyRow(other.settings, settings);
            items = other.items;
            boardLength = other.boardLength;
        }

        boolean has(int place) {
            return place >= 0 && place < items;
        }

        int letterAt(int place) {
            return has(place) ? valueAt(letters, place) : NONE;
        }

        int kernAt(int place) {
            return valueAt(kerns, place);
        }

        void changeKern(int place, int kern) {
            store(kerns, place, kern);
        }

        int countLetters() {
            int found = 0;
            for (int place = 0; place < items; place++) {
                if (letterAt(place) != NONE) {
                    found++;
                }
            }
            return found;
        }

        void insert(int place, int letter) {
            for (int to = items; to > place; to--) {
                write(to, valueAt(letters, to - 1), valueAt(kerns, to - 1));
            }
            write(place, letter, 0);
            items++;
        }

        void remove(int place) {
            for (int to = place; to < items - 1; to++) {
                write(to, valueAt(letters, to + 1), valueAt(kerns, to + 1));
            }
            items--;
        }

        void exchange(int place, int other) {
            int letter = valueAt(letters, place);
            int kern = valueAt(kerns, place);
            write(place, valueAt(letters, other), valueAt(kerns, other));
            write(other, letter, kern);
        }

        private void write(int place, int letter, int kern) {
            store(letters, place, letter);
            store(kerns, place, kern);
        }
    }

    /** Where the items of a state come to stand, and what lies between its letters. */
    private static final class Layout {
        private final int[] settings = new int[SETTINGS];
        private final int[] begins = new int[MOST_ITEMS];
        private final int[] ends = new int[MOST_ITEMS];
        // Wanted gaps without the kerns, for trying other kerns.
        private final int[] leastGaps = new int[MOST_ITEMS];
        // This row and the two below hold NONE where no pair ends.
        private final int[] gaps = new int[MOST_ITEMS];
        private final int[] areas = new int[MOST_ITEMS];
        private final int[] shares = new int[MOST_ITEMS];
        private final int[] edges = new int[SHAPES * ROWS];
        // Both indents together in each row of the pair that is looked at.
        private final int[] indents = new int[ROWS];
        private int items;
        private int pairs;
        private int faults;
        private int width;
        private int rowLimit;
        private int wantedArea;
        private int snap;
        private int allowedShare;

        /** Lays a state with one setting changed; with the setting NONE, as it is. */
        void lay(State state, int setting, int value) {
            copyRow(state.settings, settings);
            store(settings, setting, value);
            rowLimit = valueAt(settings, ROW_LIMIT);
            wantedArea = valueAt(settings, WANTED_AREA);
            snap = valueAt(settings, SNAP);
            allowedShare = valueAt(settings, ALLOWED_SHARE);
            brushEdges(valueAt(settings, BRUSH));
            items = state.items;
            pairs = 0;
            faults = 0;
            width = 0;
            for (int place = 0; place < items; place++) {
                layItem(state, place);
            }
        }

        boolean isPair(int place) {
            return place > 0 && place < items && valueAt(gaps, place) != NONE;
        }

        boolean isFault(int place) {
            return isPair(place) && valueAt(shares, place) > allowedShare;
        }

        private void brushEdges(int brush) {
            for (int index = 0; index < edges.length; index++) {
                edges[index] = brushedIndent(index / ROWS, index % ROWS, brush);
            }
        }

        private void layItem(State state, int place) {
            int letter = state.letterAt(place);
            int before = state.letterAt(place - 1);
            int begin = width;
            if (letter != NONE && before != NONE) {
                joinEdges(before, letter);
                begin += layPair(place, state.kernAt(place));
            } else {
                begin = letter == NONE || place == 0 ? begin : snapped(begin);
                storePair(place, NONE, NONE, NONE);
            }
            store(begins, place, begin);
            width = begin + (letter == NONE ? valueAt(settings, BLANK_WIDTH) : widthOf(letter));
            store(ends, place, width);
        }

        private int layPair(int place, int kern) {
            int leastGap = leastGap();
            int gap = gapBehind(width, leastGap + kern);
            int area = areaBy(gap);
            int share = shareOf(area);
            store(leastGaps, place, leastGap);
            storePair(place, gap, area, share);
            pairs++;
            if (share > allowedShare) {
                faults++;
            }
            return gap;
        }

        private void storePair(int place, int gap, int area, int share) {
            store(gaps, place, gap);
            store(areas, place, area);
            store(shares, place, share);
        }

        private void joinEdges(int first, int second) {
            int right = ROWS * rightShape(first);
            int left = ROWS * leftShape(second);
            for (int row = 0; row < indents.length; row++) {
                indents[row] = valueAt(edges, right + row) + valueAt(edges, left + row);
            }
        }

        private int leastGap() {
            // No gap can bring more than all rows at their limit: this spares the search.
            if (ROWS * rowLimit < wantedArea) {
                return WIDEST_GAP;
            }
            for (int gap = 0; gap < WIDEST_GAP; gap++) {
                if (areaBy(gap) >= wantedArea) {
                    return gap;
                }
            }
            return WIDEST_GAP;
        }

        private int gapBehind(int end, int wantedGap) {
            return snapped(end + (wantedGap > 0 ? wantedGap : 0)) - end;
        }

        private int snapped(int position) {
            if (snap <= 1) {
                return position;
            }
            int over = position % snap;
            return over == 0 ? position : position + snap - over;
        }

        private int areaBy(int gap) {
            int area = 0;
            for (int row = 0; row < indents.length; row++) {
                int open = gap + indents[row];
                area += open < rowLimit ? open : rowLimit;
            }
            return area;
        }

        private int shareOf(int area) {
            int off = area > wantedArea ? area - wantedArea : wantedArea - area;
            return wantedArea > 0 ? off * 100 / wantedArea : 0;
        }

        int countedCells(State state, int place) {
            joinEdges(state.letterAt(place - 1), state.letterAt(place));
            int gap = valueAt(gaps, place);
            int cells = 0;
            for (int row = 0; row < indents.length; row++) {
                for (int cell = 0; cell < rowLimit && cell < gap + indents[row]; cell++) {
                    cells++;
                }
            }
            return cells;
        }

        int nearestKern(State state, int place) {
            if (!isPair(place)) {
                return NONE;
            }
            joinEdges(state.letterAt(place - 1), state.letterAt(place));
            int best = 0;
            int least = shareWith(place, 0);
            for (int size = 1; size <= MOST_KERN; size++) {
                int wider = shareWith(place, size);
                if (wider < least) {
                    least = wider;
                    best = size;
                }
                int closer = shareWith(place, -size);
                if (closer < least) {
                    least = closer;
                    best = -size;
                }
            }
            return best + KERN_SHIFT;
        }

        private int shareWith(int place, int kern) {
            int gap = gapBehind(valueAt(ends, place - 1), valueAt(leastGaps, place) + kern);
            return shareOf(areaBy(gap));
        }
    }

    /** The pairs of a layout in one of the two orders. */
    private static final class Ranking {
        private final boolean ofFaults;
        private final int[] places = new int[MOST_ITEMS];
        private int size;

        Ranking(boolean ofFaults) {
            this.ofFaults = ofFaults;
        }

        void rank(Layout layout) {
            size = 0;
            for (int place = 0; place < layout.items; place++) {
                if (layout.isPair(place)) {
                    enter(layout, place);
                }
            }
        }

        int placeAt(int rank) {
            return rank >= 0 && rank < size ? valueAt(places, rank) : NONE;
        }

        // Places come in rising, so of pairs that are alike the lower one stays ahead.
        private void enter(Layout layout, int place) {
            int rank = size;
            for (int ahead = size - 1; ahead >= 0; ahead--) {
                int other = valueAt(places, ahead);
                if (!comesBefore(layout, place, other)) {
                    break;
                }
                store(places, rank, other);
                rank = ahead;
            }
            store(places, rank, place);
            size++;
        }

        private boolean comesBefore(Layout layout, int place, int other) {
            int area = valueAt(layout.areas, place);
            int otherArea = valueAt(layout.areas, other);
            if (!ofFaults) {
                return area < otherArea;
            }
            int share = valueAt(layout.shares, place);
            int otherShare = valueAt(layout.shares, other);
            return share != otherShare ? share > otherShare : area > otherArea;
        }
    }

    /** The buffer, read as a line. */
    private static final class Text {
        private final int[] codes = new int[MOST_CODES];
        private int length;

        void add(int code) {
            if (length >= 0 && length < codes.length) {
                codes[length] = code;
                length++;
            }
        }

        int errorIndex() {
            int items = 0;
            for (int index = 0; index < length; index++) {
                int code = valueAt(codes, index);
                int before = index > 0 ? valueAt(codes, index - 1) : 0;
                if (isItem(code) && !isKernSign(before) && items < MOST_ITEMS) {
                    items++;
                } else if (!(isKernSign(code) && isLetterCode(before))
                        && !(isFigure(code) && isKernSign(before))) {
                    return index;
                }
            }
            return length;
        }

        boolean isComplete() {
            return length > 0 && errorIndex() == length && !isKernSign(valueAt(codes, length - 1));
        }

        /** Makes the items of a complete text those of the state. */
        void writeTo(State state) {
            state.items = 0;
            for (int index = 0; index < length; index++) {
                int code = valueAt(codes, index);
                if (isItem(code)) {
                    state.insert(state.items, isLetterCode(code) ? code - 'A' : NONE);
                } else if (isFigure(code)) {
                    int kern = code - '0';
                    boolean minus = valueAt(codes, index - 1) == '-';
                    state.changeKern(state.items - 1, minus ? -kern : kern);
                }
            }
        }

        private static boolean isItem(int code) {
            return code == '_' || isLetterCode(code);
        }

        private static boolean isLetterCode(int code) {
            return code >= 'A' && code <= 'Z';
        }

        private static boolean isKernSign(int code) {
            return code == '+' || code == '-';
        }

        private static boolean isFigure(int code) {
            return code >= '1' && code <= '5';
        }
    }

    /** The latest saved states, in a ring of rows that are used again. */
    private static final class Past {
        private final State[] states = new State[MOST_SAVED];
        private int oldest;
        private int size;

        Past() {
            for (int index = 0; index < states.length; index++) {
                states[index] = new State();
            }
        }

        void save(State state) {
            if (size >= MOST_SAVED) {
                oldest = (oldest + 1) % MOST_SAVED;
                size--;
            }
            State free = savedAt(size);
            if (free != null) {
                free.copyFrom(state);
                size++;
            }
        }

        void takeLatest(State into) {
            State latest = size > 0 ? savedAt(size - 1) : null;
            if (latest != null) {
                into.copyFrom(latest);
                size--;
            }
        }

        private State savedAt(int age) {
            int index = (oldest + age) % MOST_SAVED;
            return index >= 0 && index < states.length ? states[index] : null;
        }
    }
}
