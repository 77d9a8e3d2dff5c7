import java.util.ArrayDeque;
import java.util.ArrayList;
import java.util.Arrays;
import java.util.Deque;
import java.util.List;
import java.util.TreeMap;
import java.util.regex.Matcher;
import java.util.regex.Pattern;

/**
 * The document once more, in the plainest words and by other ways than the program's: powers of
 * a matrix for rings, cells for shadows, a pattern for texts.
 */
final class Model {
    static final int UNKNOWN = -1;
    static final int OUT_OF_RANGE = -2;
    static final int FULL = -3;
    static final int NOT_POSSIBLE = -4;
    static final int NONE = -5;

    private static final String COORDINATE = "(?:3[01]|[12][0-9]|[0-9])";
    private static final String SIZE = "(?:1[012]|[1-9])";
    private static final String BOX = COORDINATE + "," + COORDINATE + "," + COORDINATE
            + ":" + SIZE + "," + SIZE + "," + SIZE;
    private static final Pattern TEXT = Pattern.compile(BOX + "(?:;" + BOX + ")*");

    /** A state; the boxes by their numbers, each as low ends and high ends. */
    private static final class State {
        final TreeMap<Integer, int[]> boxes = new TreeMap<>();
        int next;
        int splits;
        int rule;

        State copy() {
            State copy = new State();
            boxes.forEach((number, ends) -> copy.boxes.put(number, ends.clone()));
            copy.next = next;
            copy.splits = splits;
            copy.rule = rule;
            return copy;
        }
    }

    private State state = new State();
    private State snapshot = null;
    private final Deque<State> history = new ArrayDeque<>();
    private String text = "";

    private void change(State to) {
        history.addLast(state);
        if (history.size() > 4) {
            history.removeFirst();
        }
        state = to;
    }

    /** Whether two boxes share a unit of length in a direction. */
    private static boolean sharesUnit(int[] a, int[] b, int direction) {
        for (int at = a[direction]; at < a[3 + direction]; at++) {
            if (at >= b[direction] && at < b[3 + direction]) {
                return true;
            }
        }
        return false;
    }

    private static boolean cutsAny(State s, int own, int[] b) {
        for (var entry : s.boxes.entrySet()) {
            int[] o = entry.getValue();
            if (entry.getKey() != own && sharesUnit(b, o, 0) && sharesUnit(b, o, 1)
                    && sharesUnit(b, o, 2)) {
                return true;
            }
        }
        return false;
    }

    static int volume(int[] b) {
        return (b[3] - b[0]) * (b[4] - b[1]) * (b[5] - b[2]);
    }

    private static boolean reachesOverlap(int[] a, int[] b, int d, int e) {
        int fromA = a[d] - a[3 + e];
        int toA = a[3 + d] - a[e];
        int fromB = b[d] - b[3 + e];
        int toB = b[3 + d] - b[e];
        return fromA < toB && fromB < toA;
    }

    static boolean outlinesOverlap(int[] a, int[] b) {
        return reachesOverlap(a, b, 0, 1) && reachesOverlap(a, b, 0, 2) && reachesOverlap(a, b, 1, 2);
    }

    /** 0 to 2 if a hides b, otherwise -1. */
    static int hidesBy(int[] a, int[] b) {
        if (outlinesOverlap(a, b)) {
            for (int d = 0; d < 3; d++) {
                if (a[d] >= b[3 + d]) {
                    return d;
                }
            }
        }
        return -1;
    }

    private static boolean hides(State s, int one, int other) {
        return one != other && hidesBy(s.boxes.get(one), s.boxes.get(other)) >= 0;
    }

    /** The length of the shortest way around from a box to itself: powers of the matrix. */
    private static int ringOf(State s, int box) {
        List<Integer> numbers = new ArrayList<>(s.boxes.keySet());
        int n = numbers.size();
        boolean[] at = new boolean[n];
        at[numbers.indexOf(box)] = true;
        for (int steps = 1; steps <= n; steps++) {
            boolean[] then = new boolean[n];
            for (int i = 0; i < n; i++) {
                for (int j = 0; j < n; j++) {
                    then[j] |= at[i] && hides(s, numbers.get(i), numbers.get(j));
                }
            }
            at = then;
            if (at[numbers.indexOf(box)]) {
                return steps;
            }
        }
        return NONE;
    }

    private static int layerOf(State s, int box) {
        if (ringOf(s, box) != NONE) {
            return NONE;
        }
        int layer = 0;
        for (int other : s.boxes.keySet()) {
            if (hides(s, box, other)) {
                int under = layerOf(s, other);
                if (under == NONE) {
                    return NONE;
                }
                layer = Math.max(layer, under + 1);
            }
        }
        return layer;
    }

    private static List<Integer> order(State s) {
        List<Integer> done = new ArrayList<>();
        while (true) {
            int best = -1;
            for (int box : s.boxes.keySet()) {
                boolean can = !done.contains(box);
                for (int other : s.boxes.keySet()) {
                    can &= !hides(s, box, other) || done.contains(other);
                }
                if (can && (best < 0 || weight(s, box) < weight(s, best))) {
                    best = box;
                }
            }
            if (best < 0) {
                return done;
            }
            done.add(best);
        }
    }

    private static int weight(State s, int box) {
        int[] b = s.boxes.get(box);
        return s.rule == 0 ? box : s.rule == 1 ? b[0] + b[1] + b[2] : volume(b);
    }

    int add(int x, int y, int z, int dx, int dy, int dz) {
        State then = state.copy();
        int answer = put(then, new long[] {x, y, z, dx, dy, dz});
        if (answer >= 0) {
            change(then);
        }
        return answer;
    }

    private static int put(State s, long[] a) {
        int[] b = new int[6];
        for (int d = 0; d < 3; d++) {
            if (a[d] < 0 || a[d] > 31 || a[3 + d] < 1 || a[3 + d] > 12 || a[d] + a[3 + d] > 32) {
                return OUT_OF_RANGE;
            }
            b[d] = (int) a[d];
            b[3 + d] = (int) (a[d] + a[3 + d]);
        }
        if (cutsAny(s, -1, b)) {
            return NOT_POSSIBLE;
        }
        if (s.boxes.size() == 16) {
            return FULL;
        }
        s.boxes.put(s.next, b);
        return s.next++;
    }

    int remove(int box) {
        if (!state.boxes.containsKey(box)) {
            return UNKNOWN;
        }
        State then = state.copy();
        int volume = volume(then.boxes.remove(box));
        change(then);
        return volume;
    }

    int move(int box, int direction, int by) {
        if (!state.boxes.containsKey(box) || direction < 0 || direction > 2) {
            return UNKNOWN;
        }
        State then = state.copy();
        int[] b = then.boxes.get(box);
        if ((long) b[direction] + by < 0 || (long) b[3 + direction] + by > 32) {
            return OUT_OF_RANGE;
        }
        b[direction] += by;
        b[3 + direction] += by;
        if (cutsAny(state, box, b)) {
            return NOT_POSSIBLE;
        }
        if (by == 0) {
            return NONE;
        }
        change(then);
        return b[direction];
    }

    private static boolean below(int[] a, int[] b) {
        return a[0] < b[3] && b[0] < a[3] && a[1] < b[4] && b[1] < a[4] && a[5] <= b[2];
    }

    int fall(int box) {
        if (!state.boxes.containsKey(box)) {
            return UNKNOWN;
        }
        State then = state.copy();
        int[] b = then.boxes.get(box);
        int to = 0;
        for (int[] o : then.boxes.values()) {
            to = below(o, b) ? Math.max(to, o[5]) : to;
        }
        int by = b[2] - to;
        if (by == 0) {
            return NONE;
        }
        b[2] -= by;
        b[5] -= by;
        change(then);
        return by;
    }

    int split(int box, int direction, int at) {
        if (!state.boxes.containsKey(box) || direction < 0 || direction > 2) {
            return UNKNOWN;
        }
        int[] b = state.boxes.get(box);
        if (at <= b[direction] || at >= b[3 + direction]) {
            return OUT_OF_RANGE;
        }
        if (state.boxes.size() == 16) {
            return FULL;
        }
        State then = state.copy();
        int number = part(then, box, direction, at);
        change(then);
        return number;
    }

    private static int part(State s, int box, int direction, int at) {
        int[] lesser = s.boxes.get(box);
        int[] greater = lesser.clone();
        lesser[3 + direction] = at;
        greater[direction] = at;
        s.boxes.put(s.next, greater);
        s.splits++;
        return s.next++;
    }

    private static int breakOne(State s) {
        int greatest = -1;
        for (int box : s.boxes.keySet()) {
            if (ringOf(s, box) != NONE && (greatest < 0
                    || volume(s.boxes.get(box)) > volume(s.boxes.get(greatest)))) {
                greatest = box;
            }
        }
        if (greatest < 0) {
            return NONE;
        }
        int[] b = s.boxes.get(greatest);
        int[] sizes = {b[3] - b[0], b[4] - b[1], b[5] - b[2]};
        int most = Arrays.stream(sizes).max().getAsInt();
        int direction = sizes[0] == most ? 0 : sizes[1] == most ? 1 : 2;
        if (most == 1) {
            return NOT_POSSIBLE;
        }
        return s.boxes.size() == 16 ? FULL : part(s, greatest, direction, b[direction] + most / 2);
    }

    int breakRing() {
        State then = state.copy();
        int answer = breakOne(then);
        if (answer >= 0) {
            change(then);
        }
        return answer;
    }

    int turn() {
        if (state.boxes.isEmpty()) {
            return NONE;
        }
        State then = state.copy();
        then.boxes.replaceAll((number, b) -> new int[] {32 - b[4], b[0], b[2], 32 - b[1], b[3], b[5]});
        int otherwise = 0;
        for (int one : state.boxes.keySet()) {
            for (int other : state.boxes.keySet()) {
                if (hides(state, one, other) && !hides(then, one, other)) {
                    otherwise++;
                }
            }
        }
        change(then);
        return otherwise;
    }

    int set(int setting, int value) {
        if (setting != 0) {
            return UNKNOWN;
        }
        if (value < 0 || value > 2) {
            return OUT_OF_RANGE;
        }
        if (state.rule == value) {
            return NONE;
        }
        int previous = state.rule;
        State then = state.copy();
        then.rule = value;
        change(then);
        return previous;
    }

    int type(char character) {
        if (text.length() == 80) {
            return FULL;
        }
        text += character;
        return text.length();
    }

    int clearText() {
        int had = text.length();
        text = "";
        return had;
    }

    private int faultOfText() {
        for (int length = 1; length <= text.length(); length++) {
            Matcher matcher = TEXT.matcher(text.substring(0, length));
            if (!matcher.matches() && !matcher.hitEnd()) {
                return length - 1;
            }
        }
        return TEXT.matcher(text).matches() ? -1 : text.length();
    }

    int addAll() {
        int fault = faultOfText();
        if (fault >= 0) {
            return -100 - fault;
        }
        State then = state.copy();
        String[] parts = text.split(";");
        for (String part : parts) {
            long[] numbers = Arrays.stream(part.split("[,:]")).mapToLong(Long::parseLong).toArray();
            int answer = put(then, numbers);
            if (answer < 0) {
                return answer;
            }
        }
        change(then);
        return parts.length;
    }

    int undo() {
        if (history.isEmpty()) {
            return NONE;
        }
        state = history.removeLast();
        return history.size();
    }

    int keep() {
        snapshot = state.copy();
        return state.boxes.size();
    }

    int restore() {
        if (snapshot == null) {
            return NONE;
        }
        change(snapshot.copy());
        return state.boxes.size();
    }

    int box(int rank) {
        if (rank < 0) {
            return OUT_OF_RANGE;
        }
        List<Integer> numbers = new ArrayList<>(state.boxes.keySet());
        return rank < numbers.size() ? numbers.get(rank) : NONE;
    }

    int end(int box, int direction, boolean isHigh) {
        if (!state.boxes.containsKey(box) || direction < 0 || direction > 2) {
            return UNKNOWN;
        }
        return state.boxes.get(box)[direction + (isHigh ? 3 : 0)];
    }

    private int shadowOn(int[] b) {
        int cells = 0;
        for (int x = b[0]; x < b[3]; x++) {
            for (int y = b[1]; y < b[4]; y++) {
                boolean isDark = false;
                for (int[] o : state.boxes.values()) {
                    isDark |= o[2] >= b[5] && o[0] <= x && x + 1 <= o[3] && o[1] <= y && y + 1 <= o[4];
                }
                cells += isDark ? 1 : 0;
            }
        }
        return cells;
    }

    int ofBox(int box, int what) {
        if (!state.boxes.containsKey(box)) {
            return UNKNOWN;
        }
        int[] b = state.boxes.get(box);
        int hidden = 0;
        int hiders = 0;
        int supports = 0;
        int below = 0;
        for (int other : state.boxes.keySet()) {
            hidden += hides(state, box, other) ? 1 : 0;
            hiders += hides(state, other, box) ? 1 : 0;
            below += below(state.boxes.get(other), b) ? 1 : 0;
            supports += below(state.boxes.get(other), b) && state.boxes.get(other)[5] == b[2] ? 1 : 0;
        }
        return switch (what) {
            case 0 -> volume(b);
            case 1 -> hidden;
            case 2 -> hiders;
            case 3 -> layerOf(state, box);
            case 4 -> ringOf(state, box);
            case 5 -> supports;
            case 6 -> below;
            case 7 -> shadowOn(b);
            case 8 -> b[2] == 0 || supports > 0 ? 1 : 0;
            default -> OUT_OF_RANGE;
        };
    }

    int pair(int one, int other) {
        if (!state.boxes.containsKey(one) || !state.boxes.containsKey(other)) {
            return UNKNOWN;
        }
        if (one == other) {
            return OUT_OF_RANGE;
        }
        int[] a = state.boxes.get(one);
        int[] b = state.boxes.get(other);
        if (!outlinesOverlap(a, b)) {
            return 0;
        }
        return hidesBy(a, b) >= 0 ? 1 + hidesBy(a, b) : 4 + hidesBy(b, a);
    }

    int drawn(int place) {
        if (place < 0) {
            return OUT_OF_RANGE;
        }
        List<Integer> order = order(state);
        return place < order.size() ? order.get(place) : NONE;
    }

    int total(int what) {
        int hidings = 0;
        int inRings = 0;
        int shortest = NONE;
        int greatest = NONE;
        int volume = 0;
        int shadow = 0;
        for (int box : state.boxes.keySet()) {
            hidings += ofBox(box, 1);
            int ring = ringOf(state, box);
            inRings += ring == NONE ? 0 : 1;
            shortest = ring == NONE ? shortest : shortest == NONE ? ring : Math.min(ring, shortest);
            greatest = what == 6 ? Math.max(greatest, layerOf(state, box)) : greatest;
            volume += volume(state.boxes.get(box));
            shadow += shadowOn(state.boxes.get(box));
        }
        return switch (what) {
            case 0 -> state.boxes.size();
            case 1 -> state.next;
            case 2 -> hidings;
            case 3 -> order(state).size();
            case 4 -> inRings;
            case 5 -> shortest;
            case 6 -> greatest;
            case 7 -> state.splits;
            case 8 -> volume;
            case 9 -> shadow;
            case 10 -> state.rule;
            case 11 -> history.size();
            case 12 -> text.length();
            default -> OUT_OF_RANGE;
        };
    }

    int waitsFor(int box) {
        if (!state.boxes.containsKey(box)) {
            return UNKNOWN;
        }
        List<Integer> order = order(state);
        for (int other : state.boxes.keySet()) {
            if (hides(state, box, other) && !order.contains(other)) {
                return other;
            }
        }
        return NONE;
    }

    int breaks() {
        State then = state.copy();
        int broken = 0;
        while (true) {
            int answer = breakOne(then);
            if (answer < 0) {
                return answer == NONE ? broken : answer;
            }
            broken++;
        }
    }

    int drawnWithout(int box) {
        if (!state.boxes.containsKey(box)) {
            return UNKNOWN;
        }
        State then = state.copy();
        then.boxes.remove(box);
        return order(then).size();
    }
}
