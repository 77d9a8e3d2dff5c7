import java.io.IOException;
import java.nio.file.Files;
import java.nio.file.Path;
import java.util.ArrayList;
import java.util.Arrays;
import java.util.LinkedHashMap;
import java.util.List;
import java.util.Map;
import java.util.function.IntSupplier;
import java.util.function.IntUnaryOperator;
import java.util.function.ToIntBiFunction;

/**
 * What the tests of the document's sentences share: each test names the section and the sentence
 * that it tries, and the document is looked through for sentences that no test names.
 */
abstract class Sentences {
    static final int MIN = Integer.MIN_VALUE;
    static final int MAX = Integer.MAX_VALUE;
    static final int UNKNOWN = -1;
    static final int OUT_OF_RANGE = -2;
    static final int FULL = -3;
    static final int NOT_POSSIBLE = -4;
    static final int NONE = -5;

    /** Three bars: 0 hides 1 by z, 1 hides 2 by x, 2 hides 0 by y. */
    static final String[] RING = {"0,0,1:2,1,1", "1,0,0:1,2,1", "0,1,0:1,1,2"};

    /** What it says is said again, word by word, in the terms and the promises, but for one sentence. */
    static final String INTRODUCTION = "What it is";

    private static final Map<String, List<String>> TRIED = new LinkedHashMap<>();
    private static String label = "";

    Sentences() {
    }

    /** A test of one sentence; the section is "Promise 2" or, of the terms, "BOXES". */
    static void test(String section, String sentence, Runnable body) {
        TRIED.computeIfAbsent(section, s -> new ArrayList<>()).add(sentence);
        label = section + " \"" + sentence + "\": ";
        int before = Check.calls();
        try {
            body.run();
        } catch (RuntimeException | StackOverflowError thrown) {
            // The program never throws; so that the other tests run all the same, this is noted.
            Check.that(label + Calls.latest() + " throws " + thrown, false);
        }
        Check.that(label + "the test asks something", Check.calls() > before);
    }

    static String label() {
        return label;
    }

    static void due(int want, int got) {
        Check.due(label + Calls.latest(), got, want);
    }

    static void that(String what, boolean holds) {
        Check.that(label + what, holds);
    }

    /** A call that answers an error or NONE, and after which all that can be seen is as before. */
    static void refused(Calls h, int want, IntSupplier call) {
        List<Integer> before = look(h);
        due(want, call.getAsInt());
        String name = Calls.latest();
        that(name + " changes nothing", look(h).equals(before));
    }

    /** A change that is recorded: undo() brings back all that could be seen before it. */
    static void records(Calls h, int want, IntSupplier call) {
        List<Integer> before = look(h);
        int states = h.total(11);
        due(want, call.getAsInt());
        String name = Calls.latest();
        due(states + 1, h.total(11));
        that(name + " changes something, or is a restore()",
                name.equals("restore()") || name.equals("turn()") || !look(h).equals(before));
        due(states, h.undo());
        that("undo() takes back " + name, look(h).equals(before));
    }

    static int add(Calls h, int[] b) {
        return h.add(b[0], b[1], b[2], b[3], b[4], b[5]);
    }

    /** The same numbers but for one. */
    static int[] with(int[] numbers, int place, int number) {
        int[] changed = numbers.clone();
        changed[place] = number;
        return changed;
    }

    /** All numbers of boxes that there are not are unknown to a call. */
    static void unknownBoxes(ToIntBiFunction<Calls, Integer> call) {
        Calls h = boxes("0,0,0:2,2,2", "5,5,5:2,2,2", "9,9,9:2,2,2");
        due(8, h.remove(1));
        for (int box : new int[] {1, 3, -1, -2, 16, MIN, MAX}) {
            refused(h, UNKNOWN, () -> call.applyAsInt(h, box));
        }
        Calls empty = new Calls();
        refused(empty, UNKNOWN, () -> call.applyAsInt(empty, 0));
        refused(empty, UNKNOWN, () -> call.applyAsInt(empty, -1));
    }

    /** All directions but 0, 1 and 2 are unknown to a call on box 0, which lies in the middle. */
    static void unknownDirections(ToIntBiFunction<Calls, Integer> call) {
        Calls h = boxes("10,10,10:4,4,4");
        for (int direction : new int[] {-1, 3, 4, MIN, MAX}) {
            refused(h, UNKNOWN, () -> call.applyAsInt(h, direction));
        }
    }

    /** What can be seen of a state: counts, the boxes, and where they are. */
    static List<Integer> look(Calls h) {
        if (h.lookedAt() != null) {
            return h.lookedAt();
        }
        List<Integer> seen = new ArrayList<>();
        for (int what = 0; what <= 12; what++) {
            seen.add(h.total(what));
        }
        seen.addAll(lookAtBoxes(h));
        h.remember(seen);
        return seen;
    }

    static List<Integer> lookAtBoxes(Calls h) {
        List<Integer> seen = new ArrayList<>();
        for (int rank = 0; rank < 17; rank++) {
            int box = h.box(rank);
            seen.add(box);
            if (box < 0) {
                return seen;
            }
            for (int direction = 0; direction < 3; direction++) {
                seen.add(h.end(box, direction, false));
                seen.add(h.end(box, direction, true));
            }
        }
        return seen;
    }

    /** A new object with boxes, each as in a text of the document; they get the numbers from 0 on. */
    static Calls boxes(String... texts) {
        Calls h = new Calls();
        for (int i = 0; i < texts.length; i++) {
            int[] b = numbers(texts[i]);
            due(i, h.add(b[0], b[1], b[2], b[3], b[4], b[5]));
        }
        return h;
    }

    static int[] numbers(String text) {
        return Arrays.stream(text.split("[,:]")).mapToInt(Integer::parseInt).toArray();
    }

    /** So many cubes of size 2 on the ground, none beside or before another. */
    static Calls cubes(int count) {
        Calls h = new Calls();
        for (int i = 0; i < count; i++) {
            due(i, h.add(i % 4 * 4, i / 4 * 4, 0, 2, 2, 2));
        }
        return h;
    }

    /** A ring of the boxes 0 to 2, and more boxes that have nothing to do with it. */
    static Calls ringAmong(int count) {
        Calls h = boxes(RING);
        for (int i = 3; i < count; i++) {
            due(i, h.add(i * 2, 20, 0, 1, 1, 1));
        }
        return h;
    }

    static void typeAll(Calls h, String text) {
        for (int i = 0; i < text.length(); i++) {
            h.type(text.charAt(i));
        }
    }

    /** A new object with a text. */
    static Calls typed(String text) {
        Calls h = new Calls();
        typeAll(h, text);
        return h;
    }

    static void ends(Calls h, int box, String text) {
        int[] b = numbers(text);
        for (int direction = 0; direction < 3; direction++) {
            due(b[direction], h.end(box, direction, false));
            due(b[direction] + b[3 + direction], h.end(box, direction, true));
        }
    }

    static void order(Calls h, int... boxes) {
        for (int place = 0; place < boxes.length; place++) {
            due(boxes[place], h.drawn(place));
        }
        due(NONE, h.drawn(boxes.length));
        due(boxes.length, h.total(3));
    }

    static void each(int from, int to, IntUnaryOperator want, IntUnaryOperator call) {
        for (int i = from; i <= to; i++) {
            due(want.applyAsInt(i), call.applyAsInt(i));
        }
    }

    /**
     * Every sentence that a test names stands in its section, and every word of the terms and of
     * the promises stands in a sentence that a test names.
     */
    static void checkDocument(Path document) throws IOException {
        if (!Files.exists(document)) {
            System.out.println("no document at " + document + ": the sentences are not looked up");
            return;
        }
        Map<String, String> sections = sections(Files.readAllLines(document));
        for (Map.Entry<String, List<String>> tried : TRIED.entrySet()) {
            String text = sections.getOrDefault(tried.getKey(), "");
            for (String sentence : tried.getValue()) {
                Check.that(tried.getKey() + " says: " + sentence, text.contains(sentence));
            }
        }
        sections.remove(INTRODUCTION);
        for (Map.Entry<String, String> section : sections.entrySet()) {
            String rest = withoutTried(section.getValue(), TRIED.getOrDefault(section.getKey(), List.of()));
            Check.that("a test names this of " + section.getKey() + ": " + rest, rest.isEmpty());
        }
        Check.due("sections", sections.size(), 8 + 24);
    }

    private static String withoutTried(String text, List<String> sentences) {
        boolean[] isTried = new boolean[text.length()];
        for (String sentence : sentences) {
            for (int at = text.indexOf(sentence); at >= 0; at = text.indexOf(sentence, at + 1)) {
                Arrays.fill(isTried, at, at + sentence.length(), true);
            }
        }
        StringBuilder rest = new StringBuilder();
        for (int i = 0; i < text.length(); i++) {
            if (!isTried[i]) {
                rest.append(text.charAt(i));
            }
        }
        return rest.toString().replaceAll("[^A-Za-z0-9]+", " ").trim();
    }

    /** The parts of the terms by their heads, and the promises as "Promise 1" and so on. */
    private static Map<String, String> sections(List<String> lines) {
        Map<String, StringBuilder> sections = new LinkedHashMap<>();
        String section = "";
        for (String line : lines) {
            if (line.startsWith("## ")) {
                section = line.startsWith("## Promise ") ? line.substring(3, line.indexOf(':')) : "";
                section = line.equals("## Terms") || line.equals("## " + INTRODUCTION) ? line.substring(3) : section;
            } else if (!section.isEmpty() && line.matches("[A-Z]+(, [A-Z]+)*")) {
                section = line;
            } else if (!section.isEmpty() && !line.isBlank() && !line.startsWith("Ahead of the calls")) {
                sections.computeIfAbsent(section, s -> new StringBuilder()).append(line).append('\n');
            }
        }
        Map<String, String> texts = new LinkedHashMap<>();
        sections.forEach((name, text) -> texts.put(name, text.toString()));
        return texts;
    }
}
