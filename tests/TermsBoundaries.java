import java.util.List;

/** A test for each sentence of "Terms", at the boundaries that it names. */
final class TermsBoundaries extends Sentences {
    private static final int[] SMALL = {7, 7, 7, 1, 1, 1};

    private TermsBoundaries() {
    }

    static void run() {
        boxesInRange();
        boxesWithHighEnds();
        boxesThatCut();
        boxesAtMost();
        boxesByNumbers();
        outlines();
        hiding();
        rings();
        drawingOrder();
        drawingRules();
        drawingSticks();
        layers();
        splitting();
        breakingChoice();
        breakingPlace();
        below();
        standing();
        shadows();
    }

    // ---- BOXES

    private static void boxesInRange() {
        test("BOXES", "A box has a corner (x, y, z), each from 0 to 31", () -> {
            ends(boxes("0,0,0:1,1,1"), 0, "0,0,0:1,1,1");
            ends(boxes("31,31,31:1,1,1"), 0, "31,31,31:1,1,1");
            for (int d = 0; d < 3; d++) {
                for (int corner = 0; corner <= 31; corner++) {
                    Calls h = new Calls();
                    due(0, add(h, with(SMALL, d, corner)));
                    due(corner, h.end(0, d, false));
                }
                for (int corner : new int[] {-1, 32, MIN, MAX}) {
                    int[] wrong = with(SMALL, d, corner);
                    Calls h = new Calls();
                    refused(h, OUT_OF_RANGE, () -> add(h, wrong));
                }
            }
        });
        test("BOXES", ", and sizes in the three directions x, y and z (the directions 0, 1 and 2), each from 1 to 12.", () -> {
            ends(boxes("20,20,20:12,12,12"), 0, "20,20,20:12,12,12");
            for (int d = 0; d < 3; d++) {
                for (int size = 1; size <= 12; size++) {
                    Calls h = new Calls();
                    due(0, add(h, with(SMALL, 3 + d, size)));
                    due(7 + size, h.end(0, d, true));
                }
                for (int size : new int[] {0, -1, 13, MIN, MAX}) {
                    int[] wrong = with(SMALL, 3 + d, size);
                    Calls h = new Calls();
                    refused(h, OUT_OF_RANGE, () -> add(h, wrong));
                }
            }
        });
        test("BOXES", "It consists of all points whose coordinate in each direction is between the corner's coordinate (its low end there) and this coordinate plus its size (its high end there)", () -> {
            Calls h = boxes("3,5,7:2,4,6");
            int[] lows = {3, 5, 7};
            int[] highs = {5, 9, 13};
            each(0, 2, d -> lows[d], d -> h.end(0, d, false));
            each(0, 2, d -> highs[d], d -> h.end(0, d, true));
            due(48, h.ofBox(0, 0));
        });
    }

    private static void boxesWithHighEnds() {
        test("BOXES", "high ends are at most 32", () -> {
            for (int d = 0; d < 3; d++) {
                for (int size = 1; size <= 12; size++) {
                    int[] box = with(SMALL, 3 + d, size);
                    Calls h = new Calls();
                    due(0, add(h, with(box, d, 32 - size)));
                    due(32, h.end(0, d, true));
                    int direction = d;
                    refused(h, OUT_OF_RANGE, () -> h.move(0, direction, 1));
                    Calls beyond = new Calls();
                    int[] wrong = with(box, d, 33 - size);
                    refused(beyond, OUT_OF_RANGE, () -> add(beyond, wrong));
                }
            }
        });
    }

    private static void boxesThatCut() {
        test("BOXES", "Two boxes cut one another if in all three directions the low end of each one is less than the high end of the other one.", () -> {
            // Every place around a box of 3 by 1 by 2; they cut one another if they share a cell.
            for (int x = 7; x <= 14; x++) {
                for (int y = 7; y <= 12; y++) {
                    for (int z = 7; z <= 13; z++) {
                        Calls h = boxes("10,10,10:3,1,2");
                        boolean shares = x + 2 > 10 && x < 13 && y + 2 > 10 && y < 11 && z + 1 > 10 && z < 12;
                        due(shares ? NOT_POSSIBLE : 1, h.add(x, y, z, 2, 2, 1));
                        due(shares ? 1 : 2, h.total(0));
                    }
                }
            }
            Calls h = boxes("10,10,10:4,4,4");
            refused(h, NOT_POSSIBLE, () -> h.add(10, 10, 10, 4, 4, 4));
            refused(h, NOT_POSSIBLE, () -> h.add(11, 11, 11, 2, 2, 2));
            refused(h, NOT_POSSIBLE, () -> h.add(9, 9, 9, 6, 6, 6));
            refused(h, NOT_POSSIBLE, () -> h.add(12, 8, 11, 1, 12, 1));
            String[] beside = {"6,10,10:4,4,4", "14,10,10:4,4,4", "10,6,10:4,4,4", "10,14,10:4,4,4",
                "10,10,6:4,4,4", "10,10,14:4,4,4"};
            each(1, 6, i -> i, i -> add(h, numbers(beside[i - 1])));
        });
        test("BOXES", "There are never boxes that cut one another.", () -> {
            Calls h = boxes("0,0,0:4,4,4", "4,0,0:4,4,4", "0,4,0:4,4,4", "0,0,9:4,4,4");
            refused(h, NOT_POSSIBLE, () -> h.add(3, 3, 3, 1, 1, 1));
            refused(h, NOT_POSSIBLE, () -> h.move(1, 0, -1));
            refused(h, NOT_POSSIBLE, () -> h.move(3, 2, -6));
            typeAll(h, "9,9,9:1,1,1;0,0,12:1,1,1");
            refused(h, NOT_POSSIBLE, h::addAll);
            due(5, h.fall(3));
            due(4, h.split(0, 2, 2));
            noneCut(h);
            that("turn() answers no error", h.turn() >= 0);
            noneCut(h);
        });
    }

    private static void noneCut(Calls h) {
        List<Integer> seen = lookAtBoxes(h);
        for (int i = 0; i + 7 <= seen.size(); i += 7) {
            for (int j = i + 7; j + 7 <= seen.size(); j += 7) {
                boolean cut = true;
                for (int d = 1; d < 7; d += 2) {
                    cut &= seen.get(i + d) < seen.get(j + d + 1) && seen.get(j + d) < seen.get(i + d + 1);
                }
                that("boxes " + seen.get(i) + " and " + seen.get(j) + " do not cut one another", !cut);
            }
        }
    }

    private static void boxesAtMost() {
        test("BOXES", "There are at most 16 boxes", () -> {
            Calls h = cubes(15);
            due(15, h.add(30, 30, 30, 1, 1, 1));
            refused(h, FULL, () -> h.add(20, 20, 20, 1, 1, 1));
            due(16, h.total(0));
            due(15, h.box(15));
            due(NONE, h.box(16));
            Calls whole = cubes(15);
            due(15, whole.split(14, 0, 9));
            refused(whole, FULL, () -> whole.split(0, 0, 1));
            Calls ring = ringAmong(15);
            due(15, ring.breakRing());
            due(16, ring.total(0));
            Calls full = ringAmong(16);
            refused(full, FULL, full::breakRing);
            Calls text = cubes(15);
            typeAll(text, "20,20,20:1,1,1");
            due(1, text.addAll());
            due(16, text.total(0));
            Calls tooMany = cubes(16);
            typeAll(tooMany, "20,20,20:1,1,1");
            refused(tooMany, FULL, tooMany::addAll);
        });
    }

    private static void boxesByNumbers() {
        test("BOXES", "they have numbers, from 0 on, in the order in which they come", () -> {
            Calls h = new Calls();
            due(0, h.add(9, 9, 9, 4, 1, 1));
            due(1, h.add(0, 0, 0, 1, 1, 1));
            due(2, h.split(0, 0, 11));
            typeAll(h, "20,0,0:1,1,1;0,20,0:1,1,1");
            due(2, h.addAll());
            ends(h, 3, "20,0,0:1,1,1");
            ends(h, 4, "0,20,0:1,1,1");
            due(5, h.add(0, 0, 20, 1, 1, 1));
            each(0, 5, rank -> rank, rank -> h.box(rank));
            Calls ring = ringAmong(4);
            due(4, ring.breakRing());
            due(5, ring.add(30, 30, 30, 1, 1, 1));
        });
        test("BOXES", "no number is used again", () -> {
            Calls h = cubes(3);
            due(8, h.remove(2));
            due(3, h.add(20, 20, 20, 1, 1, 1));
            due(8, h.remove(0));
            due(8, h.remove(1));
            due(1, h.remove(3));
            due(0, h.total(0));
            due(4, h.add(0, 0, 0, 2, 1, 1));
            due(5, h.split(4, 0, 1));
            due(1, h.remove(5));
            refused(h, NOT_POSSIBLE, () -> h.add(0, 0, 0, 1, 1, 1));
            refused(h, OUT_OF_RANGE, () -> h.add(0, 0, 32, 1, 1, 1));
            due(6, h.add(1, 0, 0, 1, 1, 1));
            due(UNKNOWN, h.end(5, 0, false));
            due(7, h.total(1));
        });
        test("BOXES", "no number is used again", () -> {
            // Up to the last call that is promised.
            Calls h = new Calls();
            for (int i = 0; i < 254; i++) {
                due(i, h.add(0, 0, 0, 1, 1, 1));
                due(1, h.remove(i));
            }
            due(254, h.total(1));
            due(254, h.add(31, 31, 31, 1, 1, 1));
            due(254, h.box(0));
            due(UNKNOWN, h.remove(253));
            that("all calls that are promised are made", h.made() == Calls.MOST);
        });
    }

    // ---- OUTLINES, HIDING

    private static void outlines() {
        test("OUTLINES, HIDING", "The boxes are seen from far away in the direction in which x, y and z all grow alike: what has the greater coordinates is nearer.", () -> {
            for (int far = 1; far <= 31; far++) {
                Calls h = boxes("0,0,0:1,1,1", far + "," + far + "," + far + ":1,1,1");
                due(1, h.pair(1, 0));
                due(4, h.pair(0, 1));
                order(h, 0, 1);
            }
        });
        test("OUTLINES, HIDING", "For two directions d and e the reach of a box in d - e goes from its low end in d less its high end in e, to its high end in d less its low end in e.", () -> {
            // The first box reaches in x - y from -3 to 2, in x - z from -4 to 2, in y - z from -4
            // to 3. The other one, of 1 by 2 by 3, reaches from x - y - 2 to x - y + 1, and so on.
            // Each row: x - z and y - z where one pair of reaches touches, and where it overlaps.
            int[][] rows = {{0, 4, 0, 3}, {0, -4, 0, -3}, {5, 3, 4, 2}, {-5, -3, -4, -2}, {3, 6, 3, 5}, {-3, -6, -3, -5}};
            for (int z : new int[] {6, 7, 14, 15, 20, 23}) {
                for (int[] row : rows) {
                    Calls touching = boxes("10,10,10:2,3,4", at(z + row[0], z + row[1], z, "1,2,3"));
                    due(0, touching.pair(0, 1));
                    due(0, touching.pair(1, 0));
                    Calls overlapping = boxes("10,10,10:2,3,4", at(z + row[2], z + row[3], z, "1,2,3"));
                    due(1, overlapping.total(2));
                }
            }
        });
        test("OUTLINES, HIDING", "The outlines of two boxes overlap if for d - e being x - y, x - z and y - z the reach of each one begins below the end of the reach of the other one (all three).", () -> {
            // Cubes of size 1 overlap if their coordinates less 4 differ by less than 2.
            for (int x = 1; x <= 7; x++) {
                for (int y = 1; y <= 7; y++) {
                    for (int z = 1; z <= 7; z++) {
                        Calls h = boxes("4,4,4:1,1,1");
                        int overlap = Math.abs(x - y) < 2 && Math.abs(x - z) < 2 && Math.abs(y - z) < 2 ? 1 : 0;
                        if (h.add(x, y, z, 1, 1, 1) == 1) {
                            due(overlap, Math.min(1, h.pair(0, 1)));
                            due(overlap, h.total(2));
                        }
                    }
                }
            }
        });
    }

    private static String at(int x, int y, int z, String sizes) {
        return x + "," + y + "," + z + ":" + sizes;
    }

    private static void hiding() {
        test("OUTLINES, HIDING", "A box hides another one if their outlines overlap, and in some direction its low end is at least the high end of the other one.", () -> {
            // Its low end is the high end of the other one, or greater by 1; then too far aside.
            int[] due = {1, 1, 0};
            int[] lows = {7, 8, 10};
            for (int d = 0; d < 3; d++) {
                for (int i = 0; i < 3; i++) {
                    int[] near = with(new int[] {4, 4, 4, 3, 3, 3}, d, lows[i]);
                    Calls h = boxes("4,4,4:3,3,3");
                    due(1, add(h, near));
                    due(due[i] * (1 + d), h.pair(1, 0));
                    due(due[i] * (4 + d), h.pair(0, 1));
                    due(due[i], h.ofBox(1, 1));
                    due(0, h.ofBox(0, 1));
                }
            }
            due(1, boxes("4,4,4:3,3,3", "7,1,4:3,6,3").pair(1, 0));
        });
        test("OUTLINES, HIDING", "(Of two boxes whose outlines overlap exactly one hides the other one.)", () -> {
            for (String size : new String[] {"1,1,1", "2,3,1", "1,4,2", "5,1,1"}) {
                for (int x = 6; x <= 18; x++) {
                    for (int y = 6; y <= 18; y++) {
                        for (int z = 6; z <= 18; z++) {
                            exactlyOneHides("11,11,11:3,1,2", at(x, y, z, size));
                        }
                    }
                }
            }
        });
        test("OUTLINES, HIDING", "The direction by which it hides it is the first one, from 0 on, in which this is so.", () -> {
            int[][] rows = {{0, 0, 1, 3}, {0, 1, 0, 2}, {0, 1, 1, 2}, {1, 0, 0, 1}, {1, 0, 1, 1}, {1, 1, 0, 1}, {1, 1, 1, 1}};
            for (int[] row : rows) {
                Calls h = boxes("6,6,6:2,2,2", at(6 + 2 * row[0], 6 + 2 * row[1], 6 + 2 * row[2], "2,2,2"));
                due(row[3], h.pair(1, 0));
                due(3 + row[3], h.pair(0, 1));
            }
        });
    }

    /**
     * Whether a box hides another one, by another way: pushed along the line of sight towards the
     * eye, by halves of a unit, the other one comes to cut it.
     */
    private static boolean isMet(int[] one, int[] other) {
        for (int by = 1; by < 128; by += 2) {
            boolean cuts = true;
            for (int d = 0; d < 3; d++) {
                cuts &= 2 * one[d] < 2 * (other[d] + other[3 + d]) + by
                        && 2 * other[d] + by < 2 * (one[d] + one[3 + d]);
            }
            if (cuts) {
                return true;
            }
        }
        return false;
    }

    private static void exactlyOneHides(String one, String other) {
        Calls h = boxes(one);
        int[] a = numbers(one);
        int[] b = numbers(other);
        if (add(h, b) == NOT_POSSIBLE) {
            return;
        }
        int hides = isMet(a, b) ? 1 : 0;
        int isHidden = isMet(b, a) ? 1 : 0;
        int answer = h.pair(0, 1);
        due(hides == 1 ? 1 : isHidden == 1 ? 2 : 0, (answer + 2) / 3);
        due(answer == 0 ? 0 : answer > 3 ? answer - 3 : answer + 3, h.pair(1, 0));
        due(hides, h.ofBox(0, 1));
        due(isHidden, h.ofBox(0, 2));
        due(isHidden, h.ofBox(1, 1));
        due(hides, h.ofBox(1, 2));
        due(hides + isHidden, h.total(2));
    }

    private static void rings() {
        test("OUTLINES, HIDING", "A ring is a row of two or more different boxes of which each one hides the next one, and the last one the first one.", () -> {
            Calls alone = boxes("0,0,0:1,1,1");
            due(NONE, alone.ofBox(0, 4));
            due(0, alone.total(4));
            due(NONE, alone.total(5));
            Calls row = boxes("0,0,0:1,1,1", "1,0,0:1,1,1", "1,1,0:1,1,1", "1,1,1:1,1,1");
            due(6, row.total(2));
            due(0, row.total(4));
            due(NONE, row.total(5));
            Calls h = boxes(RING);
            due(3, h.pair(0, 1));
            due(1, h.pair(1, 2));
            due(2, h.pair(2, 0));
            due(3, h.total(4));
            due(3, h.total(5));
            each(0, 2, box -> 3, box -> h.ofBox(box, 4));
            due(2, h.remove(1));
            due(0, h.total(4));
            due(NONE, h.total(5));
            // A box that hides a ring, and one that is hidden by it, are in none.
            Calls more = boxes("10,10,11:2,1,1", "11,10,10:1,2,1", "10,11,10:1,1,2", "13,13,13:1,1,1", "8,8,8:1,1,1");
            due(4, more.ofBox(3, 1));
            due(4, more.ofBox(4, 2));
            due(NONE, more.ofBox(3, 4));
            due(NONE, more.ofBox(4, 4));
            due(3, more.total(4));
        });
        test("OUTLINES, HIDING", "A ring is a row of two or more different boxes of which each one hides the next one, and the last one the first one.", () -> {
            // 0 hides 2 hides 3 hides 5 hides 0 and 4, 4 hides 0, and 3 hides 1 too.
            Calls h = boxes("0,0,5:1,9,1", "2,6,0:2,6,3", "0,3,4:2,5,1", "1,6,3:9,1,1", "2,0,6:1,4,1", "6,5,1:3,1,11");
            int[] rings = {4, NONE, 4, 4, 5, 4};
            each(0, 5, box -> rings[box], box -> h.ofBox(box, 4));
            due(4, h.total(5));
            due(5, h.total(4));
        });
    }

    // ---- DRAWING

    private static void drawingOrder() {
        test("DRAWING", "The boxes are drawn one after the other; a box can be drawn as soon as all boxes that it hides have been drawn.", () -> {
            // 0 hides 1, and 1 hides 2; 3 and 4 stand apart.
            Calls h = boxes("2,0,0:1,1,1", "1,0,0:1,1,1", "0,0,0:1,1,1", "0,20,0:1,1,1", "0,25,0:1,1,1");
            order(h, 2, 1, 0, 3, 4);
            due(1, h.remove(2));
            order(h, 1, 0, 3, 4);
            due(1, h.remove(1));
            order(h, 0, 3, 4);
            order(new Calls());
        });
    }

    private static void drawingRules() {
        test("DRAWING", "Of those that can be drawn the next one is, by the setting 0 (0 to 2; 0 at first): 0 the one with the least number", () -> {
            Calls h = boxes("20,20,0:3,3,3", "10,20,0:2,2,2", "0,20,0:1,1,1");
            due(0, h.total(10));
            order(h, 0, 1, 2);
            due(0, h.set(0, 2));
            order(h, 2, 1, 0);
            due(2, h.set(0, 0));
            order(h, 0, 1, 2);
            refused(h, OUT_OF_RANGE, () -> h.set(0, -1));
            refused(h, OUT_OF_RANGE, () -> h.set(0, 3));
        });
        test("DRAWING", "1 the one whose corner has the least sum of its coordinates, of several the one with the least number", () -> {
            // The sums are 21, 20, 20, 20 and 0, and the volumes the other way around.
            Calls h = boxes("1,20,0:1,1,1", "0,0,20:1,1,2", "20,0,0:1,1,2", "0,20,0:1,1,1", "0,0,0:3,1,1");
            due(0, h.set(0, 1));
            order(h, 4, 1, 2, 3, 0);
            for (int d = 0; d < 3; d++) {
                int[] first = {1, 20, 2, 1, 1, 1};
                Calls same = new Calls();
                due(0, add(same, first));
                due(1, same.add(20, 1, 2, 1, 1, 1));
                due(0, same.set(0, 1));
                order(same, 0, 1);
                Calls greater = new Calls();
                due(0, add(greater, with(first, d, first[d] + 1)));
                due(1, greater.add(20, 1, 2, 1, 1, 1));
                due(0, greater.set(0, 1));
                order(greater, 1, 0);
            }
            // The corner counts, not the middle nor the high ends.
            Calls corner = boxes("10,0,0:1,1,1", "0,9,0:12,12,12");
            due(0, corner.set(0, 1));
            order(corner, 1, 0);
        });
        test("DRAWING", "2 the one with the least volume, of several the one with the least number.", () -> {
            Calls h = boxes("0,0,0:2,2,2", "10,20,0:1,7,1", "20,0,0:2,4,1", "0,20,0:1,1,8", "30,0,0:2,2,2", "0,0,30:1,1,2");
            due(0, h.set(0, 2));
            order(h, 5, 1, 0, 2, 3, 4);
            Calls great = boxes("0,20,0:12,12,12", "20,0,0:12,11,12");
            due(0, great.set(0, 2));
            order(great, 1, 0);
        });
    }

    private static void drawingSticks() {
        test("DRAWING", "If none can be drawn, and some are left, the drawing sticks.", () -> {
            Calls h = boxes(RING);
            order(h);
            due(3, h.add(0, 20, 0, 1, 1, 1));
            due(4, h.add(3, 3, 3, 1, 1, 1));
            order(h, 3);
            for (int rule = 1; rule <= 2; rule++) {
                due(rule - 1, h.set(0, rule));
                order(h, 3);
            }
            due(5, h.breakRing());
            due(6, h.total(3));
            due(4, h.drawn(5));
            due(NONE, h.drawn(6));
            Calls whole = cubes(16);
            due(16, whole.total(3));
            due(NONE, whole.drawn(16));
        });
    }

    private static void layers() {
        test("DRAWING", "The layer of a box is 0 if it hides none", () -> {
            Calls h = boxes("0,0,0:2,2,2", "0,0,2:2,2,2", "20,0,0:1,1,1");
            due(0, h.ofBox(0, 3));
            due(1, h.ofBox(1, 3));
            due(0, h.ofBox(2, 3));
            due(1, h.remove(2));
            due(8, h.remove(0));
            due(0, h.ofBox(1, 3));
            due(0, h.total(6));
        });
        test("DRAWING", "otherwise 1 more than the greatest layer of the boxes that it hides.", () -> {
            Calls h = boxes("0,0,1:4,4,1", "0,0,2:4,4,1", "0,0,0:4,4,1", "0,0,3:4,4,1");
            int[] due = {1, 2, 0, 3};
            each(0, 3, box -> due[box], box -> h.ofBox(box, 3));
            due(3, h.ofBox(3, 1));
            due(3, h.total(6));
            // Sixteen plates; a plate is too far above the thirteenth one below it to hide it.
            Calls pile = new Calls();
            for (int i = 0; i < 16; i++) {
                due(i, pile.add(0, 0, i, 12, 12, 1));
            }
            each(0, 15, box -> box, box -> pile.ofBox(box, 3));
            each(0, 15, box -> Math.min(box, 12), box -> pile.ofBox(box, 1));
            due(15, pile.total(6));
        });
        test("DRAWING", "A box that is in a ring, or that hides a box that has no layer, has none.", () -> {
            Calls h = boxes("10,10,11:2,1,1", "11,10,10:1,2,1", "10,11,10:1,1,2", "13,13,13:1,1,1", "14,14,14:1,1,1",
                    "8,8,8:1,1,1", "0,30,0:1,1,1");
            each(0, 4, box -> NONE, box -> h.ofBox(box, 3));
            due(0, h.ofBox(5, 3));
            due(0, h.ofBox(6, 3));
            due(0, h.total(6));
            due(1, h.remove(5));
            due(1, h.remove(6));
            due(NONE, h.total(6));
            // Box 4 hides box 3 alone, which hides one of the ring.
            Calls chain = boxes("10,10,11:2,1,1", "11,10,10:1,2,1", "10,11,10:1,1,2", "13,13,12:3,1,1", "16,13,13:1,1,1");
            due(1, chain.pair(4, 3));
            due(1, chain.ofBox(4, 1));
            due(NONE, chain.ofBox(3, 3));
            due(NONE, chain.ofBox(4, 3));
        });
    }

    // ---- SPLITTING

    private static void splitting() {
        test("SPLITTING", "To split a box in a direction at a coordinate between its ends: the box keeps the part with the lesser coordinates, and a new box gets the other part.", () -> {
            int[] whole = {5, 6, 7, 4, 3, 2};
            for (int d = 0; d < 3; d++) {
                int low = whole[d];
                int high = low + whole[3 + d];
                for (int at = low + 1; at < high; at++) {
                    Calls h = boxes("5,6,7:4,3,2");
                    due(1, h.split(0, d, at));
                    int[] kept = with(whole, 3 + d, at - low);
                    int[] rest = with(with(whole, d, at), 3 + d, high - at);
                    ends(h, 0, text(kept));
                    ends(h, 1, text(rest));
                    due(24, h.total(8));
                }
                Calls h = boxes("5,6,7:4,3,2");
                for (int at : new int[] {low, high, low - 1, high + 1}) {
                    int direction = d;
                    refused(h, OUT_OF_RANGE, () -> h.split(0, direction, at));
                }
            }
        });
    }

    private static String text(int[] b) {
        return b[0] + "," + b[1] + "," + b[2] + ":" + b[3] + "," + b[4] + "," + b[5];
    }

    /** A ring of three bars along x, y and z with these lengths, shifted by this much. */
    private static String[] bars(int by, int x, int y, int z) {
        return new String[] {at(by, by, by + 1, x + ",1,1"), at(by + 1, by, by, "1," + y + ",1"), at(by, by + 1, by, "1,1," + z)};
    }

    private static void breakingChoice() {
        test("SPLITTING", "To break a ring: of all boxes that are in rings the one with the greatest volume", () -> {
            int[][] lengths = {{3, 2, 2}, {2, 3, 2}, {2, 2, 3}};
            for (int greatest = 0; greatest < 3; greatest++) {
                Calls h = boxes(bars(0, lengths[greatest][0], lengths[greatest][1], lengths[greatest][2]));
                due(3, h.total(4));
                due(3, h.breakRing());
                due(1, h.ofBox(greatest, 0));
                due(2, h.ofBox(3, 0));
            }
            // Greater boxes that are in no ring, one apart and one that hides the ring, are left.
            Calls h = boxes("0,0,1:2,1,1", "1,0,0:1,2,1", "0,1,0:1,1,2", "4,4,4:9,9,9", "0,20,0:9,9,9");
            due(3, h.ofBox(3, 1));
            due(5, h.breakRing());
            due(729, h.ofBox(3, 0));
            due(729, h.ofBox(4, 0));
            due(1, h.ofBox(0, 0));
            // Of two rings the one with the greater box is broken first.
            Calls two = boxes(bars(0, 2, 2, 2));
            String[] second = bars(20, 2, 5, 2);
            each(3, 5, i -> i, i -> add(two, numbers(second[i - 3])));
            due(6, two.total(4));
            due(6, two.breakRing());
            due(2, two.ofBox(4, 0));
            due(3, two.ofBox(6, 0));
            due(2, two.ofBox(0, 0));
        });
        test("SPLITTING", ", of several the one with the least number, is split", () -> {
            Calls h = boxes(RING);
            due(3, h.breakRing());
            due(1, h.ofBox(0, 0));
            Calls later = boxes(RING);
            due(2, later.remove(0));
            due(3, later.add(0, 0, 1, 2, 1, 1));
            due(3, later.total(4));
            due(4, later.breakRing());
            due(1, later.ofBox(1, 0));
            due(2, later.ofBox(2, 0));
            due(2, later.ofBox(3, 0));
            Calls two = boxes(bars(0, 2, 2, 5));
            String[] second = bars(20, 2, 5, 2);
            each(3, 5, i -> i, i -> add(two, numbers(second[i - 3])));
            due(6, two.breakRing());
            due(2, two.ofBox(2, 0));
            due(5, two.ofBox(4, 0));
        });
    }

    private static void breakingPlace() {
        test("SPLITTING", "in the direction in which its size is the greatest, of several the first one", () -> {
            // Box 0 is the greatest one: its sizes, and where it is split.
            breaksAt(0, 2, "1,2,2:3,3,1", "3,4,1:4,1,1", "4,2,1:1,2,2");
            breaksAt(0, 1, "0,3,3:3,1,3", "2,1,4:2,2,1", "3,1,3:1,3,1");
            breaksAt(1, 2, "0,1,2:1,3,3", "0,3,1:2,2,1", "1,2,0:1,1,3");
            breaksAt(0, 4, "3,1,1:3,3,3", "1,1,4:3,1,1", "2,2,2:1,1,4");
            breaksAt(0, 1, bars(0, 3, 2, 2));
            // Box 1, moved to the front of the row, has its greatest size in y alone, then box 2 in z.
            String[] inY = bars(0, 2, 3, 2);
            breaksAt(1, 1, inY[1], inY[2], inY[0]);
            String[] inZ = bars(0, 2, 2, 3);
            breaksAt(2, 1, inZ[2], inZ[0], inZ[1]);
        });
        test("SPLITTING", ", at its low end plus half its size there (rounded down).", () -> {
            for (int size = 2; size <= 12; size++) {
                for (int by : new int[] {0, 7, 20}) {
                    String[] ring = bars(by, size, 2, 2);
                    breaksAt(0, by + size / 2, ring);
                    String[] inY = bars(by, 2, size, 2);
                    breaksAt(1, by + size / 2, inY[1], inY[2], inY[0]);
                    String[] inZ = bars(by, 2, 2, size);
                    breaksAt(2, by + size / 2, inZ[2], inZ[0], inZ[1]);
                }
            }
        });
        test("SPLITTING", "If its greatest size is 1, this is not possible.", () -> {
            // It can't come to that: of two cubes of size 1 the one that hides the other one has
            // the greater sum of coordinates, so that they make no ring.
            for (int x = 0; x <= 8; x++) {
                for (int y = 0; y <= 8; y++) {
                    for (int z = 0; z <= 8; z++) {
                        Calls h = boxes("4,4,4:1,1,1");
                        if (h.add(x, y, z, 1, 1, 1) == 1 && h.pair(1, 0) != 0) {
                            due(x + y + z > 12 ? 1 : 0, h.pair(1, 0) <= 3 ? 1 : 0);
                        }
                    }
                }
            }
            Calls pile = new Calls();
            for (int i = 0; i < 16; i++) {
                due(i, pile.add(i % 4, i / 4 % 2, i / 8, 1, 1, 1));
            }
            due(0, pile.total(4));
            refused(pile, NONE, pile::breakRing);
            due(0, pile.breaks());
        });
    }

    /** A ring whose box 0 is the greatest one, or as great as the others. */
    private static void breaksAt(int direction, int at, String... ring) {
        Calls h = boxes(ring);
        due(3, h.total(4));
        int[] whole = numbers(ring[0]);
        due(3, h.breakRing());
        ends(h, 0, text(with(whole, 3 + direction, at - whole[direction])));
        ends(h, 3, text(with(with(whole, direction, at), 3 + direction, whole[direction] + whole[3 + direction] - at)));
        ends(h, 1, ring[1]);
        ends(h, 2, ring[2]);
    }

    // ---- FEET, SHADOWS

    private static void below() {
        test("FEET, SHADOWS", "A box is below another one if in the directions x and y the low end of each one is less than the high end of the other one", () -> {
            for (int x = 7; x <= 15; x++) {
                for (int y = 7; y <= 14; y++) {
                    Calls h = boxes("10,10,10:4,3,1", at(x, y, 2, "2,2,1"));
                    boolean isBelow = x + 2 > 10 && x < 14 && y + 2 > 10 && y < 13;
                    due(isBelow ? 1 : 0, h.ofBox(0, 6));
                    due(0, h.ofBox(1, 6));
                }
            }
        });
        test("FEET, SHADOWS", ", and its high end in z is at most the low end in z of the other one.", () -> {
            for (int z = 0; z <= 7; z++) {
                Calls h = boxes("10,10,10:2,2,2", at(10, 10, z, "2,2,3"));
                due(1, h.ofBox(0, 6));
                due(0, h.ofBox(1, 6));
            }
            for (int z = 12; z <= 29; z++) {
                Calls h = boxes("10,10,10:2,2,2", at(10, 10, z, "2,2,3"));
                due(0, h.ofBox(0, 6));
                due(1, h.ofBox(1, 6));
            }
            // No box is below itself, nor is one that reaches as high beside it.
            Calls beside = boxes("10,10,10:2,2,2", "12,10,8:2,2,2", "10,12,8:2,2,4");
            each(0, 2, box -> 0, box -> beside.ofBox(box, 6));
        });
    }

    private static void standing() {
        test("FEET, SHADOWS", "A box stands on another one that is below it if these two ends are the same.", () -> {
            Calls h = boxes("10,10,7:2,2,3", "10,10,10:2,2,2");
            due(1, h.ofBox(1, 5));
            due(0, h.ofBox(0, 5));
            due(6, h.move(0, 2, -1));
            due(0, h.ofBox(1, 5));
            due(1, h.ofBox(1, 6));
            // The ends are the same, but the box is not below: it touches the side or the corner.
            Calls side = boxes("10,10,8:2,2,2", "12,10,10:2,2,2", "8,12,10:2,2,2", "12,8,10:2,2,2");
            each(1, 3, box -> 0, box -> side.ofBox(box, 5));
            // One corner of one cell is enough; and on as many as there can be.
            due(1, boxes("10,10,8:2,2,2", "11,11,10:2,2,2").ofBox(1, 5));
            Calls table = new Calls();
            for (int i = 0; i < 15; i++) {
                due(i, table.add(i % 4 * 3, i / 4 * 3, 0, 2, 2, 2));
            }
            due(15, table.add(0, 0, 2, 12, 12, 1));
            due(15, table.ofBox(15, 5));
            due(15, table.ofBox(15, 6));
            due(3, table.move(15, 2, 1));
            due(0, table.ofBox(15, 5));
            due(15, table.ofBox(15, 6));
        });
    }

    private static void shadows() {
        test("FEET, SHADOWS", "The light comes straight from above: a cell of the top of a box (a square of 1 by 1) is in shadow if some box above it covers that cell.", () -> {
            for (int x = 7; x <= 15; x++) {
                for (int y = 7; y <= 14; y++) {
                    Calls h = boxes("10,10,0:4,3,1", at(x, y, 5, "2,2,1"));
                    int cells = Math.max(0, Math.min(14, x + 2) - Math.max(10, x))
                            * Math.max(0, Math.min(13, y + 2) - Math.max(10, y));
                    due(cells, h.ofBox(0, 7));
                    due(0, h.ofBox(1, 7));
                    due(cells, h.total(9));
                }
            }
            // From right upon it, and from the end of the space.
            due(4, boxes("10,10,0:2,2,2", "9,9,2:12,12,1").ofBox(0, 7));
            due(4, boxes("10,10,0:2,2,2", "9,9,31:12,12,1").ofBox(0, 7));
            // A cell in two shadows counts once; a box as high, or below, makes none.
            Calls h = boxes("10,10,4:4,4,1", "11,11,6:2,2,1", "12,12,9:2,2,1", "14,10,4:1,1,1", "10,10,0:1,1,1");
            due(7, h.ofBox(0, 7));
            due(1, h.ofBox(1, 7));
            due(0, h.ofBox(2, 7));
            due(0, h.ofBox(3, 7));
            due(1, h.ofBox(4, 7));
            due(9, h.total(9));
            // The whole of the greatest top, in the corner of the space.
            Calls great = boxes("20,20,0:12,12,1", "20,20,1:12,12,1", "31,31,31:1,1,1", "20,20,31:1,1,1");
            due(144, great.ofBox(0, 7));
            due(2, great.ofBox(1, 7));
        });
    }
}
