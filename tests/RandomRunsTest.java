import java.util.Arrays;
import java.util.Random;

/** Runs of many calls, each one answered by the program and by the model of the document. */
public final class RandomRunsTest {
    private static final int RUNS = 300;
    private static final int CALLS = 512;
    private static final int[] ODD = {-1, 0, 3, 16, 31, 32, 33, Integer.MIN_VALUE, Integer.MAX_VALUE};

    /** Rings of three boxes; in most of them the greatest one is as great in several directions. */
    private static final int[][][] RINGS = {
        {{1, 2, 2, 3, 3, 1}, {3, 4, 1, 4, 1, 1}, {4, 2, 1, 1, 2, 2}},
        {{0, 3, 3, 3, 1, 3}, {2, 1, 4, 2, 2, 1}, {3, 1, 3, 1, 3, 1}},
        {{0, 1, 2, 1, 3, 3}, {0, 3, 1, 2, 2, 1}, {1, 2, 0, 1, 1, 3}},
        {{3, 1, 1, 3, 3, 3}, {1, 1, 4, 3, 1, 1}, {2, 2, 2, 1, 1, 4}},
        {{2, 4, 0, 1, 1, 2}, {1, 2, 1, 4, 2, 3}, {3, 3, 0, 1, 4, 1}},
        {{0, 0, 1, 2, 1, 1}, {1, 0, 0, 1, 2, 1}, {0, 1, 0, 1, 1, 2}},
        {{0, 0, 1, 5, 1, 1}, {1, 0, 0, 1, 5, 1}, {0, 1, 0, 1, 1, 5}},
        {{0, 1, 2, 3, 1, 1}, {2, 0, 1, 1, 3, 1}, {1, 2, 0, 1, 1, 3}},
    };

    /** A ring of ten boxes and a ring of sixteen, in which there is no shorter ring. */
    private static final int[][][] LONG_RINGS = {
        {{6, 3, 21, 2, 6, 5}, {1, 14, 14, 3, 10, 5}, {16, 2, 21, 5, 4, 6}, {9, 7, 8, 11, 3, 12},
            {18, 6, 13, 9, 1, 12}, {1, 21, 4, 12, 7, 8}, {6, 16, 4, 9, 4, 11}, {12, 4, 21, 3, 4, 8},
            {4, 5, 19, 1, 12, 12}, {3, 13, 7, 10, 2, 5}},
        {{18, 15, 8, 6, 2, 7}, {5, 2, 17, 2, 3, 7}, {19, 17, 3, 3, 1, 7}, {8, 0, 18, 1, 8, 4},
            {1, 10, 16, 12, 10, 1}, {9, 13, 2, 2, 12, 1}, {19, 10, 9, 12, 5, 12}, {7, 17, 8, 9, 1, 1},
            {2, 12, 12, 4, 11, 3}, {10, 21, 0, 7, 10, 2}, {12, 16, 7, 4, 2, 1}, {0, 3, 19, 4, 12, 12},
            {13, 6, 23, 7, 1, 1}, {1, 16, 9, 9, 3, 2}, {15, 19, 1, 9, 2, 4}, {19, 7, 14, 5, 1, 11}},
    };

    private final Random random;
    private final HidingBoxes program = new HidingBoxes();
    private final Model model = new Model();
    private final int region;
    private final int changesOfTen;
    private int calls = 0;

    private RandomRunsTest(int seed) {
        random = new Random(seed);
        region = 5 + random.nextInt(28);
        changesOfTen = 1 + random.nextInt(8);
    }

    public static void main(String[] args) {
        int[] seen = new int[4];
        for (int seed = 0; seed < RUNS && !Check.isWrong(); seed++) {
            new RandomRunsTest(seed).run(seed, seen);
        }
        Check.that("there were runs with rings", seen[0] > 100);
        Check.that("there were rings that could not be broken for want of room", seen[1] > 10);
        Check.that("there were full spaces", seen[2] > 100);
        Check.that("there were long rings", seen[3] > 100);
        Check.end("RandomRunsTest");
    }

    private void run(int seed, int[] seen) {
        if (seed % 3 == 0) {
            addAll("run " + seed + ", ring: ", LONG_RINGS[seed / 3 % 2], new int[3]);
        }
        // A round takes up to 82 calls, and an object is promised for 512 calls alone.
        for (int round = 0; calls < CALLS - 82 && !Check.isWrong(); round++) {
            String name = "run " + seed + ", round " + round + ": ";
            if (seed % 3 != 0 && round < 20 || random.nextInt(10) < changesOfTen) {
                change(name, seed % 3 != 0 && round < 20 ? random.nextInt(2) : random.nextInt(21));
            } else {
                ask(name, random.nextInt(9));
            }
            if (round % 10 == 0) {
                look(seen);
            }
        }
    }

    /** Counts, by the model alone, what the runs come to. */
    private void look(int[] seen) {
        boolean hasRing = model.total(5) != HidingBoxes.NONE;
        seen[0] += hasRing ? 1 : 0;
        seen[1] += hasRing && model.breaks() == HidingBoxes.FULL ? 1 : 0;
        seen[2] += model.total(0) == 16 ? 1 : 0;
        seen[3] += model.total(5) > 5 ? 1 : 0;
    }

    private int odd() {
        return ODD[random.nextInt(ODD.length)];
    }

    private int someBox() {
        int rank = random.nextInt(17);
        int box = model.box(rank);
        return random.nextInt(25) == 0 ? odd() : box >= 0 ? box : model.box(0) >= 0 ? model.box(0) : rank;
    }

    private int someDirection() {
        return random.nextInt(25) == 0 ? odd() : random.nextInt(3);
    }

    private int[] someNewBox() {
        int[] b = new int[6];
        for (int d = 0; d < 3; d++) {
            b[d] = random.nextInt(Math.min(region, 32));
            b[3 + d] = 1 + random.nextInt(3);
        }
        b[3 + random.nextInt(3)] = 1 + random.nextInt(12);
        if (random.nextInt(30) == 0) {
            b[random.nextInt(6)] = odd();
        }
        return b;
    }

    private String someText() {
        StringBuilder text = new StringBuilder();
        int boxes = 1 + random.nextInt(3);
        for (int i = 0; i < boxes; i++) {
            int[] b = someNewBox();
            text.append(i == 0 ? "" : ";").append(b[0]).append(',').append(b[1]).append(',').append(b[2]);
            text.append(':').append(b[3]).append(',').append(b[4]).append(',').append(b[5]);
        }
        String signs = "0123456789,;:-x ";
        while (random.nextInt(3) == 0) {
            int at = random.nextInt(text.length());
            switch (random.nextInt(4)) {
                case 0 -> text.setCharAt(at, signs.charAt(random.nextInt(signs.length())));
                case 1 -> text.insert(at, signs.charAt(random.nextInt(signs.length())));
                case 2 -> text.setLength(at + 1);
                default -> text.append(signs.charAt(random.nextInt(signs.length())));
            }
        }
        return text.toString();
    }

    private void change(String name, int kind) {
        calls++;
        int box = someBox();
        int direction = someDirection();
        switch (kind) {
            case 0, 2, 3, 4, 5 -> add(name, someNewBox());
            case 1 -> addRing(name);
            case 6 -> Check.due(name + "remove " + box, program.remove(box), model.remove(box));
            case 7, 8 -> {
                int by = random.nextInt(25) == 0 ? odd() : random.nextInt(17) - 8;
                Check.due(name + "move " + box + " " + direction + " " + by,
                        program.move(box, direction, by), model.move(box, direction, by));
            }
            case 9, 10 -> Check.due(name + "fall " + box, program.fall(box), model.fall(box));
            case 11 -> {
                int at = model.end(box, direction, false) + random.nextInt(13);
                Check.due(name + "split " + box + " " + direction + " " + at,
                        program.split(box, direction, at), model.split(box, direction, at));
            }
            case 12, 13 -> Check.due(name + "breakRing", program.breakRing(), model.breakRing());
            case 14 -> Check.due(name + "turn", program.turn(), model.turn());
            case 15 -> {
                int setting = random.nextInt(8) == 0 ? odd() : 0;
                int value = random.nextInt(8) == 0 ? odd() : random.nextInt(3);
                Check.due(name + "set " + setting + " " + value,
                        program.set(setting, value), model.set(setting, value));
            }
            case 16 -> Check.due(name + "undo", program.undo(), model.undo());
            case 17 -> Check.due(name + "keep", program.keep(), model.keep());
            case 18 -> Check.due(name + "restore", program.restore(), model.restore());
            case 19 -> add(name, new int[] {odd(), odd(), odd(), odd(), odd(), odd()});
            default -> enterText(name);
        }
    }

    private void add(String name, int[] b) {
        calls++;
        Check.due(name + "add " + Arrays.toString(b),
                program.add(b[0], b[1], b[2], b[3], b[4], b[5]),
                model.add(b[0], b[1], b[2], b[3], b[4], b[5]));
    }

    /** Three boxes of which each one hides the next one, unless something is in their way. */
    private void addRing(String name) {
        int[][] ring = RINGS[random.nextInt(RINGS.length)];
        int[] at = new int[3];
        for (int d = 0; d < 3; d++) {
            at[d] = random.nextInt(Math.min(region, 25));
        }
        addAll(name, ring, at);
    }

    private void addAll(String name, int[][] boxes, int[] at) {
        for (int[] b : boxes) {
            add(name, new int[] {at[0] + b[0], at[1] + b[1], at[2] + b[2], b[3], b[4], b[5]});
        }
    }

    private void enterText(String name) {
        if (random.nextInt(4) != 0) {
            Check.due(name + "clearText", program.clearText(), model.clearText());
        }
        String text = someText();
        calls += Math.min(text.length(), 80) + 1;
        for (int i = 0; i < text.length() && i < 80; i++) {
            Check.due(name + "type", program.type(text.charAt(i)), model.type(text.charAt(i)));
        }
        Check.due(name + "addAll " + text, program.addAll(), model.addAll());
    }

    private void ask(String name, int kind) {
        calls += 2;
        int box = someBox();
        int other = someBox();
        int direction = someDirection();
        int place = random.nextInt(20) == 0 ? odd() : random.nextInt(17);
        switch (kind) {
            case 0 -> Check.due(name + "box " + place, program.box(place), model.box(place));
            case 1 -> {
                boolean isHigh = random.nextBoolean();
                Check.due(name + "end " + box + " " + direction + " " + isHigh,
                        program.end(box, direction, isHigh), model.end(box, direction, isHigh));
            }
            case 2, 3 -> {
                int what = random.nextInt(15) == 0 ? odd() : random.nextInt(9);
                Check.due(name + "ofBox " + box + " " + what,
                        program.ofBox(box, what), model.ofBox(box, what));
            }
            case 4 -> Check.due(name + "pair " + box + " " + other,
                    program.pair(box, other), model.pair(box, other));
            case 5 -> Check.due(name + "drawn " + place, program.drawn(place), model.drawn(place));
            case 6 -> {
                int what = random.nextInt(15) == 0 ? odd() : random.nextInt(13);
                Check.due(name + "total " + what, program.total(what), model.total(what));
            }
            case 7 -> Check.due(name + "waitsFor " + box, program.waitsFor(box), model.waitsFor(box));
            default -> {
                Check.due(name + "breaks", program.breaks(), model.breaks());
                Check.due(name + "drawnWithout " + box, program.drawnWithout(box), model.drawnWithout(box));
            }
        }
    }
}
