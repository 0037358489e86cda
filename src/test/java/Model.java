import java.util.ArrayDeque;
import java.util.ArrayList;
import java.util.Arrays;
import java.util.Comparator;
import java.util.Deque;
import java.util.List;
import java.util.regex.Matcher;
import java.util.regex.Pattern;

/** The document told a second time, in the slowest way: it keeps nothing but the state and counts all anew. */
final class Model {
    private static final Pattern LINE = Pattern.compile("(?:_|[A-Z](?:[+-][1-5])?){1,20}");
    private static final Pattern ITEM = Pattern.compile("_|[A-Z](?:[+-][1-5])?");
    private static final int[][] RANGES = {{0, 4}, {5, 40}, {1, 30}, {10, 300}, {1, 12}, {0, 100}};

    private record Item(int letter, int kern) {
        boolean blank() {
            return letter < 0;
        }
    }

    private record Pair(int place, int gap, int area, int share, boolean fault) { }

    private record Kept(List<Item> items, int board, int[] settings) { }

    private List<Item> items = new ArrayList<>();
    private int board = 300;
    private int[] settings = {1, 20, 8, 60, 1, 15};
    private final Deque<Kept> saved = new ArrayDeque<>();
    private Kept snapshot;
    private String buffer = "";

    // ---- changes

    private Kept kept() {
        return new Kept(new ArrayList<>(items), board, settings.clone());
    }

    private void bring(Kept old) {
        items = new ArrayList<>(old.items());
        board = old.board();
        settings = old.settings().clone();
    }

    private void save() {
        saved.addLast(kept());
        if (saved.size() > 6) {
            saved.removeFirst();
        }
    }

    private static void index(boolean right) {
        if (!right) {
            throw new IndexOutOfBoundsException();
        }
    }

    private static void argument(boolean right) {
        if (!right) {
            throw new IllegalArgumentException();
        }
    }

    private static void state(boolean right) {
        if (!right) {
            throw new IllegalStateException();
        }
    }

    private boolean has(int place) {
        return place >= 0 && place < items.size();
    }

    int put(int place, int letter) {
        index(place >= 0 && place <= items.size());
        argument(letter >= -1 && letter <= 25);
        state(items.size() < 20);
        save();
        items.add(place, new Item(letter, 0));
        return items.size();
    }

    int drop(int place) {
        index(has(place));
        save();
        items.remove(place);
        return items.size();
    }

    int swap(int place, int other) {
        index(has(place) && has(other));
        save();
        Item item = items.get(place);
        items.set(place, items.get(other));
        items.set(other, item);
        return count(4);
    }

    int kern(int place, int kern) {
        index(has(place));
        argument(kern >= -5 && kern <= 5);
        state(!items.get(place).blank());
        save();
        Item item = items.get(place);
        items.set(place, new Item(item.letter(), kern));
        return item.kern() + 10;
    }

    int board(int length) {
        argument(length >= 50 && length <= 600);
        save();
        int before = board;
        board = length;
        return before;
    }

    int set(int setting, int value) {
        index(setting >= 0 && setting <= 5);
        argument(value >= RANGES[setting][0] && value <= RANGES[setting][1]);
        save();
        int before = settings[setting];
        settings[setting] = value;
        return before;
    }

    int append(int code) {
        argument(code >= 33 && code <= 126);
        state(buffer.length() < 60);
        buffer += (char) code;
        return buffer.length();
    }

    int clearBuffer() {
        int length = buffer.length();
        buffer = "";
        return length;
    }

    int firstError() {
        for (int i = 0; i < buffer.length(); i++) {
            Matcher begun = LINE.matcher(buffer.substring(0, i + 1));
            if (!begun.matches() && !begun.hitEnd()) {
                return i;
            }
        }
        return buffer.length();
    }

    int line() {
        argument(LINE.matcher(buffer).matches());
        save();
        items.clear();
        Matcher item = ITEM.matcher(buffer);
        while (item.find()) {
            String text = item.group();
            int letter = text.equals("_") ? -1 : text.charAt(0) - 'A';
            items.add(new Item(letter, text.length() > 1 ? Integer.parseInt(text.substring(1)) : 0));
        }
        buffer = "";
        return items.size();
    }

    int undo() {
        state(!saved.isEmpty());
        bring(saved.removeLast());
        return saved.size();
    }

    int keep() {
        snapshot = kept();
        return items.size();
    }

    int restore() {
        state(snapshot != null);
        save();
        bring(snapshot);
        return items.size();
    }

    // ---- looks

    int letter(int letter, int what) {
        index(letter >= 0 && letter <= 25);
        argument(what >= 0 && what <= 2);
        return new int[] {6 + (7 * letter) % 9, letter % 4, (3 * letter + 1) % 4}[what];
    }

    int indent(int shape, int row) {
        index(shape >= 0 && shape <= 3 && row >= 0 && row <= 9);
        return indent(settings, shape, row);
    }

    private static int indent(int[] settings, int shape, int row) {
        int plain = new int[] {0, Math.abs(2 * row - 9) / 2, row / 2, row >= 3 && row <= 6 ? 4 : 0}[shape];
        return row == 0 || row == 9 ? Math.max(0, plain - settings[0]) : plain;
    }

    private static int cells(int[] settings, int first, int second, int gap) {
        int cells = 0;
        for (int row = 0; row < 10; row++) {
            int begin = indent(settings, (3 * first + 1) % 4, row);
            int end = gap + indent(settings, second % 4, row);
            for (int cell = -begin; cell < end && cell + begin < settings[1]; cell++) {
                cells++;
            }
        }
        return cells;
    }

    /** The begins and ends of all items, and the pairs, by settings and kerns as they are given. */
    private record Laid(int[] begins, int[] ends, Pair[] pairs) {
        int width() {
            return ends.length == 0 ? 0 : ends[ends.length - 1];
        }

        List<Pair> allPairs() {
            List<Pair> all = new ArrayList<>();
            for (Pair pair : pairs) {
                if (pair != null) {
                    all.add(pair);
                }
            }
            return all;
        }

        int faults() {
            return (int) allPairs().stream().filter(Pair::fault).count();
        }
    }

    private static Laid laid(List<Item> items, int[] settings) {
        int many = items.size();
        Laid laid = new Laid(new int[many], new int[many], new Pair[many]);
        for (int i = 0; i < many; i++) {
            Item item = items.get(i);
            int end = i == 0 ? 0 : laid.ends[i - 1];
            int begin = end;
            boolean pair = i > 0 && !item.blank() && !items.get(i - 1).blank();
            if (pair) {
                begin += Math.max(0, wanted(settings, items.get(i - 1).letter(), item.letter()) + item.kern());
            }
            while (!item.blank() && i > 0 && begin % settings[4] != 0) {
                begin++;
            }
            laid.begins[i] = begin;
            laid.ends[i] = begin + (item.blank() ? settings[2] : 6 + (7 * item.letter()) % 9);
            if (pair) {
                int area = cells(settings, items.get(i - 1).letter(), item.letter(), begin - end);
                int share = Math.abs(area - settings[3]) * 100 / settings[3];
                laid.pairs[i] = new Pair(i, begin - end, area, share, share > settings[5]);
            }
        }
        return laid;
    }

    private static int wanted(int[] settings, int first, int second) {
        int gap = 0;
        while (gap < 40 && cells(settings, first, second, gap) < settings[3]) {
            gap++;
        }
        return gap;
    }

    private Laid now() {
        return laid(items, settings);
    }

    int item(int place, int what) {
        index(has(place));
        argument(what >= 0 && what <= 8);
        Item item = items.get(place);
        Laid laid = now();
        Pair pair = laid.pairs()[place];
        if (what < 4) {
            return new int[] {item.letter(), item.blank() ? -1 : item.kern() + 10, laid.begins()[place],
                laid.ends()[place]}[what];
        }
        return pair == null ? -1
            : new int[] {pair.gap(), pair.area(), pair.area(), pair.share(), pair.fault() ? 1 : 0}[what - 4];
    }

    int byArea(int rank) {
        argument(rank >= 0);
        return ranked(rank, Comparator.comparing(Pair::area).thenComparing(Pair::place));
    }

    int byFault(int rank) {
        argument(rank >= 0);
        return ranked(rank, Comparator.comparing((Pair pair) -> -pair.share()).thenComparing(pair -> -pair.area())
            .thenComparing(Pair::place));
    }

    private int ranked(int rank, Comparator<Pair> order) {
        List<Pair> pairs = now().allPairs();
        pairs.sort(order);
        return rank < pairs.size() ? pairs.get(rank).place() : -1;
    }

    int count(int what) {
        argument(what >= 0 && what <= 15);
        Laid laid = now();
        int margin = laid.width() > board ? -1 : (board - laid.width()) / 2;
        int letters = (int) items.stream().filter(item -> !item.blank()).count();
        int least = laid.allPairs().stream().mapToInt(Pair::area).min().orElse(-1);
        int greatest = laid.allPairs().stream().mapToInt(Pair::area).max().orElse(-1);
        return new int[] {items.size(), letters, laid.allPairs().size(), laid.faults(), laid.width(), margin, board,
            least, greatest, settings[0], settings[1], settings[2], settings[3], settings[4], settings[5],
            saved.size()}[what];
    }

    // ---- what would be

    private Laid with(int setting, int value) {
        int[] others = settings.clone();
        others[setting] = value;
        return laid(items, others);
    }

    int ifSet(int setting, int value, int what) {
        index(setting >= 0 && setting <= 5);
        argument(value >= RANGES[setting][0] && value <= RANGES[setting][1] && (what == 0 || what == 1));
        return what == 0 ? with(setting, value).faults() : with(setting, value).width();
    }

    int greatestArea() {
        int greatest = -1;
        for (int area = 10; area <= 300; area += 10) {
            greatest = with(3, area).width() <= board ? area : greatest;
        }
        return greatest;
    }

    int bestSnap() {
        int best = 12;
        for (int snap = 11; snap >= 1; snap--) {
            best = with(4, snap).faults() < with(4, best).faults() ? snap : best;
        }
        return best;
    }

    int bestKern(int place) {
        index(has(place));
        if (now().pairs()[place] == null) {
            return -1;
        }
        return Arrays.stream(new Integer[] {0, 1, -1, 2, -2, 3, -3, 4, -4, 5, -5})
            .min(Comparator.comparing(kern -> shareBy(place, kern))).orElseThrow() + 10;
    }

    private int shareBy(int place, int kern) {
        List<Item> others = new ArrayList<>(items);
        others.set(place, new Item(items.get(place).letter(), kern));
        return laid(others, settings).pairs()[place].share();
    }

    double even() {
        List<Pair> pairs = now().allPairs();
        return pairs.isEmpty() ? 1.0 : (double) (pairs.size() - now().faults()) / pairs.size();
    }

    long digest() {
        List<Long> values = new ArrayList<>();
        for (int what = 0; what < 16; what++) {
            values.add((long) count(what));
        }
        for (int place = 0; place < items.size(); place++) {
            for (int what = 0; what < 9; what++) {
                values.add((long) item(place, what));
            }
            values.add((long) bestKern(place));
        }
        for (int rank = 0; rank < count(2); rank++) {
            values.addAll(List.of((long) byArea(rank), (long) byFault(rank)));
        }
        for (int shape = 0; shape < 4; shape++) {
            values.addAll(List.of((long) indent(shape, 0), (long) indent(shape, 9)));
        }
        values.addAll(List.of((long) ifSet(4, 5, 0), (long) ifSet(4, 5, 1), (long) greatestArea(),
            (long) bestSnap(), Double.doubleToLongBits(even()), (long) buffer.length()));
        buffer.chars().forEach(code -> values.add((long) code));
        long hash = 3697;
        for (long value : values) {
            hash = 31 * hash + value;
        }
        return hash;
    }
}
